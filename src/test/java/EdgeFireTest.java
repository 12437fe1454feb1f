/** The boundary cases of Terms II (BURNS, TOLD, NEXT, AGREES) and of promises 6 to 17. */
public final class EdgeFireTest {
    private static final String S = "street fright 0;";
    /** They burn on days 5, 8, 9 and 7. */
    private static final String ROW = S + "house a timber day 5 by 50;house b brick calm;"
            + "house c thatch day 9 by 100;house d stone day 7 by 0;spark a b days 2;spark b c days 3;spark c d days 1;"
            + "does a cut;does b douse;does c panic;pulled d";
    /** They burn on days 60, 70, .. 110. */
    private static final String LATE = S + "house a timber day 60 by 100;house b brick calm;house c brick calm;"
            + "house d brick calm;house e brick calm;house f brick calm;spark a b days 9;spark b c days 9;"
            + "spark c d days 9;spark d e days 9;spark e f days 9";
    private static final String CALM = S + "house a timber calm;house b stone calm;spark a b days 1;spark b a days 0";
    private static final int[] NO_HOUSE = {-1, 4, 5, 6, 31, 32, 64, Edge.LEAST, Edge.MOST};
    private static final int[] NO_DAY = {-1, 91, Edge.LEAST, Edge.MOST};

    private EdgeFireTest() {
    }

    public static void main(String[] args) {
        kindsAndSparks();
        whicheverIsFirst();
        calm();
        douse();
        cut();
        panic();
        nothing();
        onceOnly();
        beginning();
        house();
        spark();
        burns();
        litBy();
        burnt();
        lastDay();
        next();
        nextOfWires();
        agrees();
        agreesNone();
        toldTooLate();
        burnsIf();
        saves();
        bestTold();
        dumbDay();
        Due.end("EdgeFireTest");
    }

    private static String two(String kind, int cause, int days) {
        return S + "house a timber day " + cause + " by 1;house b " + kind + " calm;spark a b days " + days;
    }

    // ---- Terms II

    /** "a brick one by sparks a day later, a thatched one a day sooner (not ahead of the other one), a stone one never" */
    private static void kindsAndSparks() {
        String[] kinds = {"brick", "thatch", "timber", "stone"};
        int[] days = {0, 1, 2, 9};
        int[][] lags = {{1, 2, 3, 10}, {0, 0, 1, 8}, {0, 1, 2, 9}, {-2, -2, -2, -2}};
        for (int kind = 0; kind < 4; kind++) {
            for (int i = 0; i < 4; i++) {
                String text = two(kinds[kind], 7, days[i]);
                int lag = lags[kind][i];
                String what = kinds[kind] + " by " + days[i];
                Edge.is(text, "", "spark: " + what, lag, x -> x.spark(0, 1));
                Edge.is(text, "", "burns: " + what, lag < 0 ? -2 : 7 + lag, x -> x.burns(1));
                Edge.is(text, "", "litBy: " + what, lag < 0 ? -2 : 0, x -> x.litBy(1));
            }
        }
        // By its own cause each burns on the day told, a stone one too, and a stone one has sparks.
        for (String kind : kinds) {
            String text = S + "house a " + kind + " day 7 by 1;house b timber calm;spark a b days 2";
            Edge.is(text, "", "own: " + kind, 7, x -> x.burns(0));
            Edge.is(text, "", "sparks of " + kind, 9, x -> x.burns(1));
        }
    }

    /** "on the day of its own cause .. or so many days as told behind one that has sparks to it does, whichever is first" */
    private static void whicheverIsFirst() {
        for (int cause = 4; cause <= 6; cause++) {
            String text = S + "house a timber day 3 by 1;house b timber day " + cause + " by 1;spark a b days 2";
            Edge.is(text, "", "cause " + cause + " or sparks 5", Math.min(cause, 5), x -> x.burns(1));
            Edge.is(text, "", "by which, " + cause, cause <= 5 ? -2 : 0, x -> x.litBy(1));
        }
        // Two that have sparks to it, and a way round that is sooner than the straight one.
        String text = S + "house a timber day 1 by 1;house b timber calm;house c timber calm;house d timber calm;"
                + "spark a d days 9;spark c d days 1;spark b c days 1;spark a b days 1";
        Edge.is(text, "", "the way round", 4, x -> x.burns(3));
        Edge.is(text, "", "by c", 2, x -> x.litBy(3));
        // The longest row there can be, its sparks told from the far end: each house lights the one ahead of it.
        String back = S + "house f timber calm;house e timber calm;house d timber calm;house c timber calm;"
                + "house b timber calm;house a timber day 60 by 1;spark e f days 9;spark d e days 9;spark c d days 9;"
                + "spark b c days 9;spark a b days 9";
        for (int h = 0; h < 6; h++) {
            int day = 60 + 9 * (5 - h);
            int house = h;
            Edge.is(back, "", "row, house " + h, day, x -> x.burns(house));
            Edge.is(back, "", "row, house " + h + " by", h == 5 ? -2 : h + 1, x -> x.litBy(house));
        }
        // Sparks that go round light nothing sooner.
        String ring = S + "house a timber day 5 by 1;house b thatch calm;spark a b days 0;spark b a days 0";
        Edge.is(ring, "", "ring a", 5, x -> x.burns(0));
        Edge.is(ring, "", "ring b", 5, x -> x.burns(1));
        Edge.is(ring, "", "ring a by its own", -2, x -> x.litBy(0));
        Edge.is(ring, "", "ring b by a", 0, x -> x.litBy(1));
    }

    /** "(a calm one has none)" */
    private static void calm() {
        Edge.is(CALM, "", "calm: cause", -2, x -> x.house(0, 1));
        Edge.is(CALM, "", "calm: burns", -2, x -> x.burns(0));
        Edge.is(CALM, "", "calm: litBy", -2, x -> x.litBy(0));
        Edge.is(CALM, "", "calm: stone", -2, x -> x.burns(1));
        Edge.is(CALM, "", "calm: burnt", 0, x -> x.burnt(90));
        // A calm one has no cause that panic could make sooner, or douse could take.
        for (String doing : new String[] {"panic", "douse"}) {
            String text = two("timber", 7, 2) + ";does b " + doing;
            Edge.is(text, "tell1", doing + " of a calm one", -2, x -> x.house(1, 1));
            Edge.is(text, "tell1", doing + " of a calm one, burns", 9, x -> x.burns(1));
            Edge.is(text, "tell1", doing + " of a calm one, by", 0, x -> x.litBy(1));
        }
    }

    /** "douse: his house has no cause of its own from then on" */
    private static void douse() {
        String text = S + "house a timber day 7 by 1;house b timber day 8 by 1;spark a b days 2;does a douse;does b douse";
        Edge.is(text, "", "doused a", -2, x -> x.tell(0));
        Edge.is(text, "", "doused b burns by a", 9, x -> x.tell(1));
        Edge.is(text, "tell1", "doused b: cause", -2, x -> x.house(1, 1));
        Edge.is(text, "tell1", "doused b: by", 0, x -> x.litBy(1));
        Edge.is(text, "tell0 tell1", "both doused", -2, x -> x.lastDay());
        Edge.is(text, "tell0", "a's sparks stay", 2, x -> x.spark(0, 1));
        // The last day on which it can still be told is the one ahead.
        Edge.is(text, "day6", "doused on day 6", -2, x -> x.tell(0));
        Edge.no(text, "day7", "burns on day 7", 5, x -> x.tell(0));
    }

    /** "cut: it has no sparks" */
    private static void cut() {
        String text = S + "house a timber day 7 by 1;house b timber calm;house c timber calm;spark a b days 2;"
                + "spark a c days 0;spark b c days 1;spark b a days 1;does a cut";
        Edge.is(text, "", "a who cuts burns still", 7, x -> x.tell(0));
        Edge.is(text, "tell0", "no sparks to b", -2, x -> x.spark(0, 1));
        Edge.is(text, "tell0", "none to c", -2, x -> x.spark(0, 2));
        Edge.is(text, "tell0", "b's sparks stay", 1, x -> x.spark(1, 2));
        Edge.is(text, "tell0", "sparks to a stay", 1, x -> x.spark(1, 0));
        Edge.is(text, "tell0", "b is safe", -2, x -> x.burns(1));
        Edge.is(text, "tell0", "b is lit by none", -2, x -> x.litBy(1));
        Edge.is(text, "tell0", "a's cause stays", 7, x -> x.house(0, 1));
    }

    /** "panic: its own cause is a day sooner (0 at least)" */
    private static void panic() {
        for (int cause : new int[] {1, 2, 60}) {
            String text = S + "house a timber day " + cause + " by 1;does a panic";
            Edge.is(text, "", "panic from " + cause, cause - 1, x -> x.tell(0));
            Edge.is(text, "tell0", "panic from " + cause + ", cause", cause - 1, x -> x.house(0, 1));
        }
        // On day 0 it burns and can't be told, so that nothing comes ahead of day 0.
        String zero = S + "house a timber day 0 by 1;does a panic";
        Edge.no(zero, "", "day 0", 5, x -> x.tell(0));
        Edge.no(zero, "", "day 0, if", 5, x -> x.burnsIf(0, 0));
        Edge.is(zero, "", "day 0 stays", 0, x -> x.house(0, 1));
        // Its sparks come a day sooner, too; where sparks are first, panic changes nothing.
        Edge.is(two("timber", 7, 2) + ";does a panic", "tell0", "sparks a day sooner", 8, x -> x.burns(1));
        String later = S + "house a timber day 3 by 1;house b timber day 9 by 1;spark a b days 2;does b panic";
        Edge.is(later, "", "sparks are first", 5, x -> x.tell(1));
        Edge.is(later, "tell1", "its cause is sooner anyhow", 8, x -> x.house(1, 1));
        // Told on the day ahead it burns on this very day.
        Edge.is(S + "house a timber day 7 by 1;does a panic", "day6", "burns at once", 6, x -> x.tell(0));
        Edge.is(S + "house a timber day 7 by 1;does a panic", "day6 tell0", "burnt today", 1, x -> x.burnt(6));
    }

    /** "who does nothing told: nothing" */
    private static void nothing() {
        String text = two("timber", 7, 2);
        Edge.is(text, "", "tell a", 7, x -> x.tell(0));
        Edge.is(text, "tell0 tell1", "a as ever", 7, x -> x.burns(0));
        Edge.is(text, "tell0 tell1", "b as ever", 9, x -> x.burns(1));
        Edge.is(text, "tell0 tell1", "a was told", 1, x -> x.house(0, 4));
        Edge.is(text, "tell0", "b wasn't", 0, x -> x.house(1, 4));
        Edge.is(text, "", "nobody saved", 100, x -> x.saves(0));
    }

    /** Who was TOLD has done what he does: told once more in a question, he does nothing more. */
    private static void onceOnly() {
        String text = S + "house a timber day 9 by 1;does a panic;glass day 0;glass day 1";
        Edge.is(text, "tell0", "panics once", 8, x -> x.burnsIf(0, 0));
        Edge.is(text, "tell0", "saves none", 100, x -> x.saves(0));
        Edge.is(text, "tell0", "agrees on day 7", 1, x -> x.agrees(7));
        Edge.is(text, "tell0", "doesn't on day 8", 0, x -> x.agrees(8));
        Edge.is(text, "", "rung for twice", 0, x -> x.wayAt(0, 1));
    }

    /** "At first it is day 0; houses of which the day is unknown have that told." */
    private static void beginning() {
        String text = S + "house a timber day 33 by 9;house b timber calm;unknown a;unknown b";
        Edge.is(text, "", "unknown as told", 33, x -> x.burns(0));
        Edge.is(text, "", "unknown: cause as told", 33, x -> x.house(0, 1));
        Edge.is(text, "", "unknown and calm", -2, x -> x.house(1, 1));
        Due.is("day 0", Due.street(text).size(8), 0);
    }

    // ---- promises 6 to 11

    /** Promise 6: "-2 none", "0 nothing", "NONE: 1". */
    private static void house() {
        for (int h : NO_HOUSE) {
            for (int what = -1; what <= 6; what++) {
                int w = what;
                Edge.no(ROW, "", "house " + h + " " + what, 1, x -> x.house(h, w));
            }
        }
        for (int what : new int[] {-1, 6, 7, Edge.LEAST, Edge.MOST}) {
            for (int h = 0; h < 4; h++) {
                int house = h;
                Edge.no(ROW, "", "house " + h + " " + what, 1, x -> x.house(house, what));
            }
        }
        int[][] due = {{2, 5, 50, 2, 0, 0}, {0, -2, 0, 1, 0, 0}, {1, 9, 100, 3, 0, 0}, {3, 7, 0, 0, 0, 1}};
        int[][] acted = {{2, 5, 50, 2, 1, 0}, {0, -2, 0, 1, 0, 1}, {1, 8, 100, 3, 1, 0}, {3, 7, 0, 0, 0, 0}};
        for (int h = 0; h < 4; h++) {
            for (int what = 0; what < 6; what++) {
                int house = h;
                int w = what;
                Edge.is(ROW, "", "house " + h + " " + what, due[h][what], x -> x.house(house, w));
                Edge.is(ROW, "tell0 tell2 pull1 mend3", "acted: house " + h + " " + what, acted[h][what],
                        x -> x.house(house, w));
                Edge.is(ROW, "tell0 tell2 pull1 mend3 undo4", "undone: house " + h + " " + what, due[h][what],
                        x -> x.house(house, w));
            }
        }
        Edge.is(LATE, "", "the sixth", 0, x -> x.house(5, 0));
        Edge.no(LATE, "", "no seventh", 1, x -> x.house(6, 0));
        Edge.is(S + "house a stone calm", "", "the only one", 3, x -> x.house(0, 0));
        Edge.no(S + "house a stone calm", "", "no second", 1, x -> x.house(1, 0));
    }

    /** Promise 7: "-2 never (none, cut, stone). NONE: 1 (unlike)." */
    private static void spark() {
        for (int h : NO_HOUSE) {
            Edge.no(ROW, "", "spark " + h + " 0", 1, x -> x.spark(h, 0));
            Edge.no(ROW, "", "spark 0 " + h, 1, x -> x.spark(0, h));
            Edge.no(ROW, "", "spark " + h + " " + h, 1, x -> x.spark(h, h));
        }
        for (int h = 0; h < 4; h++) {
            int house = h;
            Edge.no(ROW, "", "spark to itself " + h, 1, x -> x.spark(house, house));
        }
        Edge.is(ROW, "", "none", -2, x -> x.spark(1, 0));
        Edge.is(ROW, "", "stone", -2, x -> x.spark(2, 3));
        Edge.is(ROW, "tell0", "cut", -2, x -> x.spark(0, 1));
        Edge.is(ROW, "tell0 undo", "no more cut", 3, x -> x.spark(0, 1));
        Edge.is(ROW, "pull0 pull1", "wires are no matter", 3, x -> x.spark(0, 1));
        Edge.is(ROW, "day50", "burnt is no matter", 3, x -> x.spark(0, 1));
        Edge.is(LATE, "", "the last", 10, x -> x.spark(4, 5));
    }

    /** Promise 8: "-2 never. NONE: 1." */
    private static void burns() {
        for (int h : NO_HOUSE) {
            Edge.no(ROW, "", "burns " + h, 1, x -> x.burns(h));
        }
        Edge.is(S + "house a timber day 0 by 0", "", "by 0, on day 0", 0, x -> x.burns(0));
        Edge.is(LATE, "", "day 110", 110, x -> x.burns(5));
        Edge.is(LATE, "day90", "day 110 on day 90", 110, x -> x.burns(5));
        Edge.is(ROW, "tell0", "never", -2, x -> x.burns(1));
    }

    /** Promise 9: "(of like ones the first; its own cause ahead of sparks); -2 by its own, or never. NONE: 1." */
    private static void litBy() {
        for (int h : NO_HOUSE) {
            Edge.no(ROW, "", "litBy " + h, 1, x -> x.litBy(h));
        }
        String text = S + "house a timber calm;house b timber day 3 by 1;house c timber day 2 by 1;house d timber day 1 by 1;"
                + "spark d a days 4;spark c a days 3;spark b a days 2;does b cut;does c cut;does d cut";
        Edge.is(text, "", "of like ones the first", 1, x -> x.litBy(0));
        Edge.is(text, "tell1", "without b", 2, x -> x.litBy(0));
        Edge.is(text, "tell1 tell2", "without b and c", 3, x -> x.litBy(0));
        Edge.is(text, "tell1 tell2 tell3", "without any", -2, x -> x.litBy(0));
        Edge.is(text, "", "by its own", -2, x -> x.litBy(1));
        Edge.is(CALM, "", "never", -2, x -> x.litBy(1));
        String own = S + "house a timber day 1 by 1;house b timber day 3 by 1;spark a b days 2;does b panic";
        Edge.is(own, "", "its own ahead of sparks", -2, x -> x.litBy(1));
        Edge.is(own, "day1 tell1", "its own is sooner", -2, x -> x.litBy(1));
        Edge.is(LATE, "", "the sixth by the fifth", 4, x -> x.litBy(5));
        // A house that is lit itself by the other one on that day.
        String zero = S + "house a thatch calm;house b thatch calm;house c timber day 4 by 1;spark a b days 0;"
                + "spark b a days 0;spark c b days 1";
        Edge.is(zero, "", "zero: a by b", 1, x -> x.litBy(0));
        Edge.is(zero, "", "zero: b by the first of those whose sparks come then", 0, x -> x.litBy(1));
    }

    /** Promise 10: "BURNT in n days (0 .. 90), as bits. NONE: 1 (no STREET); 2."; III: "those that BURN on day n or ahead" */
    private static void burnt() {
        for (int n : NO_DAY) {
            Edge.no(ROW, "", "burnt " + n, 2, x -> x.burnt(n));
            Edge.no(null, "", "burnt " + n + ", no street", 1, x -> x.burnt(n));
        }
        int[] bits = {0, 0, 0, 0, 0, 1, 1, 9, 11, 15};
        for (int n = 0; n < bits.length; n++) {
            int day = n;
            Edge.is(ROW, "", "burnt " + n, bits[n], x -> x.burnt(day));
            Edge.is(ROW, "day20", "burnt " + n + " on day 20", bits[n], x -> x.burnt(day));
        }
        Edge.is(ROW, "", "burnt 90", 15, x -> x.burnt(90));
        Edge.is(LATE, "", "burnt 89", 7, x -> x.burnt(89));
        Edge.is(LATE, "", "burnt 90", 15, x -> x.burnt(90));
        Edge.is(S + "house a timber day 0 by 0", "", "burnt 0", 1, x -> x.burnt(0));
        String six = S + "house a stone day 0 by 0;house b stone day 0 by 0;house c stone day 0 by 0;"
                + "house d stone day 0 by 0;house e stone day 0 by 0;house f stone day 0 by 0";
        Edge.is(six, "", "all six", 63, x -> x.burnt(0));
    }

    /** Promise 11: "-2 none does. NONE: 1 (no STREET)." */
    private static void lastDay() {
        Edge.no(null, "", "lastDay", 1, x -> x.lastDay());
        Edge.is(CALM, "", "none does", -2, x -> x.lastDay());
        Edge.is(S + "house a timber day 0 by 0", "", "day 0", 0, x -> x.lastDay());
        Edge.is(S + "house a timber day 0 by 0;house b stone calm", "day5", "day 0, long ago", 0, x -> x.lastDay());
        Edge.is(LATE, "", "day 110", 110, x -> x.lastDay());
        Edge.is(LATE, "tell0 tell1 tell2 tell3 tell4 tell5", "nobody does anything", 110, x -> x.lastDay());
        String first = S + "house a stone day 60 by 1;house b stone day 0 by 1;house c stone day 0 by 1;"
                + "house d stone day 0 by 1;house e stone day 0 by 1;house f stone day 0 by 1;does a panic";
        Edge.is(first, "", "the first house is the last", 60, x -> x.lastDay());
        Edge.is(first, "tell0", "a day sooner", 59, x -> x.lastDay());
    }

    // ---- promises 12 to 17

    /** Promise 12: "NEXT on a day (0 .. 90); -2 nobody. NONE: 1 (no STREET); 2."; II: "soonest later than that day" */
    private static void next() {
        for (int n : NO_DAY) {
            Edge.no(ROW, "", "next " + n, 2, x -> x.next(n));
            Edge.no(null, "", "next " + n + ", no street", 1, x -> x.next(n));
        }
        int[] due = {0, 0, 0, 0, 0, 1, 1, 1, 2, -2};
        for (int n = 0; n < due.length; n++) {
            int day = n;
            Edge.is(ROW, "", "next " + n, due[n], x -> x.next(day));
            Edge.is(ROW, "day20", "next " + n + " on day 20", due[n], x -> x.next(day));
        }
        Edge.is(ROW, "", "next 90", -2, x -> x.next(90));
        Edge.is(LATE, "", "next 89", 3, x -> x.next(89));
        Edge.is(LATE, "", "next 90", 4, x -> x.next(90));
        Edge.is(CALM, "", "nobody burns", -2, x -> x.next(0));
        Edge.is(S + "house a timber day 0 by 0", "", "on day 0 already", -2, x -> x.next(0));
        Edge.is(S + "house a timber day 1 by 0", "", "by 0 is no matter", 0, x -> x.next(0));
    }

    /** "the house whose wire isn't pulled .., of like ones the first" */
    private static void nextOfWires() {
        String like = S + "house a timber day 4 by 1;house b timber day 3 by 1;house c timber day 3 by 1;"
                + "house d timber day 3 by 1";
        Edge.is(like, "", "of like ones the first", 1, x -> x.next(0));
        Edge.is(like, "pull1", "the first is pulled", 2, x -> x.next(0));
        Edge.is(like, "pull1 pull2 pull3", "the later one", 0, x -> x.next(0));
        Edge.is(like, "pull0 pull1 pull2 pull3", "all are pulled", -2, x -> x.next(0));
        Edge.is(like, "pull1 mend1", "mended", 1, x -> x.next(0));
        Edge.is(like, "pull0 pull1 pull2 pull3", "nobody agrees", 0, x -> x.agrees(0));
        Edge.is(LATE, "pull4", "pulled, on day 90", 5, x -> x.next(90));
    }

    /** Promise 13: "Houses that AGREE on a day (NOW .. 90), as bits. NONE: 1 (no STREET); 2." */
    private static void agrees() {
        for (int n : NO_DAY) {
            Edge.no(ROW, "", "agrees " + n, 2, x -> x.agrees(n));
            Edge.no(null, "", "agrees " + n + ", no street", 1, x -> x.agrees(n));
        }
        Edge.is(ROW, "", "agrees 0", 1, x -> x.agrees(0));
        Edge.is(ROW, "", "agrees 90", 0, x -> x.agrees(90));
        for (int now : new int[] {1, 3, 90}) {
            int day = now;
            Edge.no(ROW, "day" + now, "agrees ahead of " + now, 2, x -> x.agrees(day - 1));
            Edge.no(ROW, "day" + now, "agrees on day 0", 2, x -> x.agrees(0));
            Edge.is(ROW, "day" + now, "agrees now, " + now, now < 5 ? 1 : 0, x -> x.agrees(day));
        }
        Edge.is(ROW, "day2 undo", "back on day 1", 1, x -> x.agrees(1));
        Edge.is(LATE, "day90", "agrees 90 on day 90", 16, x -> x.agrees(90));
        String six = S + "house a timber day 9 by 1;house b timber day 9 by 1;house c timber day 9 by 1;"
                + "house d timber day 9 by 1;house e timber day 9 by 1;house f timber day 9 by 1;does b panic;does c panic;"
                + "does d panic;does e panic;does f panic";
        // a is the first, each other one would be sooner.
        Edge.is(six, "", "all six agree", 63, x -> x.agrees(0));
        Edge.is(six, "", "on day 7", 63, x -> x.agrees(7));
        Edge.is(six, "", "on day 8 their panic is too soon", 1, x -> x.agrees(8));
        Edge.is(six, "pull0 pull5", "pulled ones don't", 30, x -> x.agrees(0));
    }

    /** "(There may be none, or several.)" */
    private static void agreesNone() {
        String douse = S + "house a timber day 3 by 1;house b timber day 5 by 1;does a douse";
        Edge.is(douse, "", "a wouldn't burn, b isn't next", 0, x -> x.agrees(0));
        Edge.is(douse, "", "behind a", 2, x -> x.agrees(3));
        Edge.is(douse, "tell0", "a was told", 2, x -> x.agrees(0));
        Edge.is(CALM, "", "nobody is next", 0, x -> x.agrees(0));
        // Told as a, who cuts, doesn't make another one next; b is lit by a alone.
        String cut = two("timber", 3, 2) + ";does a cut";
        Edge.is(cut, "", "a", 1, x -> x.agrees(0));
        Edge.is(cut, "", "b, a burns", 2, x -> x.agrees(3));
    }

    /** "Who is TOLD on a day and doesn't BURN on it or ahead does what he does" */
    private static void toldTooLate() {
        // Doused, a would burn by b's sparks on day 6, next of all; but not if it burns already.
        String text = S + "house a timber day 3 by 1;house b timber day 2 by 1;house c timber day 8 by 1;spark b a days 4;"
                + "does a douse";
        Edge.is(text, "", "doused on day 2", 1, x -> x.agrees(2));
        Edge.is(text, "", "on day 3 it burns", 4, x -> x.agrees(3));
        Edge.is(text, "", "on day 4 it does already", 4, x -> x.agrees(4));
        Edge.is(text, "day2", "on day 2 it can be told", 6, x -> x.burnsIf(0, 0));
        Edge.no(text, "day3", "on day 3 it can't", 5, x -> x.burnsIf(0, 0));
        Edge.is(text + ";glass day 2", "", "the glass of day 2", 0, x -> x.wayAt(0, 0));
        Edge.is(text + ";glass day 3", "", "the glass of day 3", 2, x -> x.wayAt(0, 0));
    }

    /** Promise 14: "-2. NONE: 1; 5 (the one told BURNS NOW or did)." */
    private static void burnsIf() {
        for (int h : NO_HOUSE) {
            Edge.no(ROW, "", "burnsIf " + h + " 0", 1, x -> x.burnsIf(h, 0));
            Edge.no(ROW, "", "burnsIf 0 " + h, 1, x -> x.burnsIf(0, h));
            Edge.no(ROW, "day5", "burnsIf " + h + " 0 on day 5", 1, x -> x.burnsIf(h, 0));
        }
        Edge.is(ROW, "day4", "a day ahead", -2, x -> x.burnsIf(1, 0));
        Edge.no(ROW, "day5", "burns now", 5, x -> x.burnsIf(1, 0));
        Edge.no(ROW, "day6", "burnt", 5, x -> x.burnsIf(1, 0));
        Edge.no(ROW, "day90", "burnt long ago", 5, x -> x.burnsIf(3, 3));
        Edge.is(ROW, "day7", "only the one told counts", 5, x -> x.burnsIf(0, 1));
        Edge.is(ROW, "", "itself", 8, x -> x.burnsIf(2, 2));
        Edge.is(ROW, "tell0", "never", -2, x -> x.burnsIf(1, 1));
        Edge.is(ROW, "pull0", "a pulled one can be told", -2, x -> x.burnsIf(1, 0));
        Edge.no(S + "house a timber day 0 by 0", "", "on day 0", 5, x -> x.burnsIf(0, 0));
        NextBell x = Edge.at(ROW, "");
        x.burnsIf(2, 2);
        Due.is("nobody was told", x.house(2, 4) + x.size(9), 0);
    }

    /**
     * Promise 15: "(below 0: more), and 100. NONE: 1; 5." Nobody does anything by which more houses BURN ever, so that no
     * street answers less than 100.
     */
    private static void saves() {
        for (int h : NO_HOUSE) {
            Edge.no(ROW, "", "saves " + h, 1, x -> x.saves(h));
        }
        Edge.is(ROW, "day4", "a day ahead", 101, x -> x.saves(0));
        Edge.no(ROW, "day5", "burns now", 5, x -> x.saves(0));
        Edge.no(ROW, "day6", "burnt", 5, x -> x.saves(0));
        Edge.no(S + "house a timber day 0 by 0", "", "on day 0", 5, x -> x.saves(0));
        Edge.is(LATE + ";does a douse", "", "all six", 106, x -> x.saves(0));
        Edge.is(LATE + ";does a cut", "", "five, those behind day 90 too", 105, x -> x.saves(0));
        Edge.is(LATE + ";does e cut", "day90", "the last, on day 90", 101, x -> x.saves(4));
        Edge.is(LATE + ";does e panic", "", "none", 100, x -> x.saves(4));
    }

    /** Promise 16: "the first such; -2 by none fewer than NOW. NONE: 1 (no STREET)." */
    private static void bestTold() {
        Edge.no(null, "", "bestTold", 1, x -> x.bestTold());
        Edge.is(CALM, "", "nothing burns", -2, x -> x.bestTold());
        Edge.is(LATE, "", "nobody does anything", -2, x -> x.bestTold());
        Edge.is(LATE + ";does a cut", "", "the first house", 0, x -> x.bestTold());
        Edge.is(LATE + ";does e cut;does d cut;does f cut", "", "fewest", 3, x -> x.bestTold());
        Edge.is(LATE + ";does e cut;does d cut;does f cut", "day90", "d burns now", 4, x -> x.bestTold());
        Edge.is(LATE + ";does d cut", "day89", "a day ahead", 3, x -> x.bestTold());
        Edge.is(LATE + ";does d cut", "day90", "on the day itself", -2, x -> x.bestTold());
        Edge.is(LATE + ";does e cut", "", "the one lost behind day 90 counts", 4, x -> x.bestTold());
        String like = S + "house a timber day 9 by 1;house b stone day 9 by 1;house c brick day 8 by 1;does b douse;does c douse";
        Edge.is(like, "", "of like ones the first", 1, x -> x.bestTold());
        Edge.is(like, "tell1", "of those left", 2, x -> x.bestTold());
        Edge.is(like, "tell1 tell2", "none is left", -2, x -> x.bestTold());
        Edge.is(like, "pull1", "a pulled one can be told", 1, x -> x.bestTold());
    }

    /** Promise 17: "(NOW .. 90) on which nobody AGREES, though somebody is NEXT; -2. NONE: 1 (no STREET)." */
    private static void dumbDay() {
        Edge.no(null, "", "dumbDay", 1, x -> x.dumbDay());
        Edge.is(CALM, "", "nobody is next", -2, x -> x.dumbDay());
        Edge.is(LATE, "", "somebody agrees each day", -2, x -> x.dumbDay());
        String douse = S + "house a timber day 3 by 1;house b timber day 5 by 1;does a douse";
        Edge.is(douse, "", "day 0", 0, x -> x.dumbDay());
        Edge.is(douse, "day2", "today", 2, x -> x.dumbDay());
        Edge.is(douse, "day3", "those ahead of now don't count", -2, x -> x.dumbDay());
        Edge.is(douse, "pull0", "without a's wire", -2, x -> x.dumbDay());
        Edge.is(S + "house a timber day 60 by 1;does a panic", "", "the day ahead of the last cause", 59, x -> x.dumbDay());
        Edge.is(S + "house a timber day 60 by 1;does a panic", "day59", "on that day", 59, x -> x.dumbDay());
        Edge.is(S + "house a timber day 60 by 1;does a panic", "day60", "behind it", -2, x -> x.dumbDay());
        Edge.is(LATE, "day90", "on day 90", -2, x -> x.dumbDay());
    }
}
