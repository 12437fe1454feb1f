/** Promises 6 to 48: what each call answers, at its edges too, and by what it is refused. */
public final class PromisesTest {
    private static final String ROW = "street fright 2;house a timber day 5 by 50;house b brick calm;"
            + "house c thatch day 9 by 100;house d stone day 7 by 0;spark a b days 2;spark b c days 3;spark c d days 1;"
            + "does a cut;does b douse;does c panic;pulled d;glass day 0;glass day 6;unknown c;rung day 0 a;rung day 5 c";
    /** They burn on days 60, 70, .. 110. */
    private static final String LATE = "street fright 0;house a timber day 60 by 100;house b brick calm;"
            + "house c brick calm;house d brick calm;house e brick calm;house f brick calm;spark a b days 9;"
            + "spark b c days 9;spark c d days 9;spark d e days 9;spark e f days 9;glass day 0";
    /** Either rings first: a by panic on day 9, b since it burns ahead of a; b would cut the spark to c. */
    private static final String EITHER = "street fright 4;house a timber day 10 by 1;house b timber day 9 by 1;"
            + "house c timber calm;spark b c days 1;does a panic;does b cut;glass day 0";
    private static final String PANICS = "street fright 9;house a timber day 10 by 50;house b timber day 10 by 50;"
            + "does a panic;does b panic;glass day 0;glass day 1;glass day 9";
    private static final String DOUSE = "street fright 0;house a timber day 3 by 50;house b thatch calm;"
            + "spark a b days 1;does a douse";
    private static final String CHANCE = "street fright 0;house a timber day 2 by 50;house b timber day 4 by 20;"
            + "house c stone calm;spark a b days 1;does a douse;does b panic";

    private PromisesTest() {
    }

    public static void main(String[] args) {
        houses();
        sparks();
        fires();
        lateFires();
        nextAndAgrees();
        ifTold();
        dumbDays();
        ways();
        waysAnew();
        safe();
        cuts();
        fits();
        twoUnknown();
        lateTry();
        judges();
        two();
        chance();
        years();
        acts();
        wires();
        days();
        undoing();
        images();
        led();
        noStreet();
        Due.end("PromisesTest");
    }

    private static void houses() {
        NextBell x = Due.street(ROW);
        int[][] due = {{2, 5, 50, 2, 0, 0}, {0, -2, 0, 1, 0, 0}, {1, 9, 100, 3, 0, 0}, {3, 7, 0, 0, 0, 1}};
        for (int h = 0; h < 4; h++) {
            for (int what = 0; what < 6; what++) {
                Due.is("house " + h + " " + what, x, x.house(h, what), due[h][what], 0);
            }
        }
        Due.is("house 0 6", x, x.house(0, 6), -1, 1);
        Due.is("house 0 -1", x, x.house(0, -1), -1, 1);
        Due.is("house 4 0", x, x.house(4, 0), -1, 1);
        Due.is("house -1 0", x, x.house(-1, 0), -1, 1);
        Due.is("tell 2", x, x.tell(2), 8, 0);
        Due.is("cause a day sooner", x.house(2, 1), 8);
        Due.is("told", x.house(2, 4), 1);
        x = Due.street(DOUSE);
        Due.is("tell 0", x, x.tell(0), -2, 0);
        Due.is("no cause", x.house(0, 1), -2);
        Due.is("by stays", x.house(0, 2), 50);
    }

    private static void sparks() {
        NextBell x = Due.street(ROW);
        Due.is("brick a day later", x, x.spark(0, 1), 3, 0);
        Due.is("thatch a day sooner", x, x.spark(1, 2), 2, 0);
        Due.is("stone never", x, x.spark(2, 3), -2, 0);
        Due.is("none", x, x.spark(1, 0), -2, 0);
        Due.is("itself", x, x.spark(1, 1), -1, 1);
        Due.is("spark 0 4", x, x.spark(0, 4), -1, 1);
        Due.is("spark -1 0", x, x.spark(-1, 0), -1, 1);
        x.tell(0);
        Due.is("cut", x, x.spark(0, 1), -2, 0);
        Due.is("not cut", x, x.spark(1, 2), 2, 0);
        x = Due.street("street fright 0;house a thatch calm;house b thatch calm;house c timber calm;"
                + "spark a b days 0;spark b a days 9;spark a c days 0");
        Due.is("thatch not ahead", x.spark(0, 1), 0);
        Due.is("thatch 9", x.spark(1, 0), 8);
        Due.is("timber 0", x.spark(0, 2), 0);
    }

    private static void fires() {
        NextBell x = Due.street(ROW);
        int[] burns = {5, 8, 9, 7};
        int[] litBy = {-2, 0, -2, -2};
        for (int h = 0; h < 4; h++) {
            Due.is("burns " + h, x, x.burns(h), burns[h], 0);
            Due.is("litBy " + h, x, x.litBy(h), litBy[h], 0);
        }
        Due.is("burns 4", x, x.burns(4), -1, 1);
        Due.is("litBy -1", x, x.litBy(-1), -1, 1);
        Due.is("burnt 0", x, x.burnt(0), 0, 0);
        Due.is("burnt 4", x, x.burnt(4), 0, 0);
        Due.is("burnt 5", x, x.burnt(5), 1, 0);
        Due.is("burnt 8", x, x.burnt(8), 11, 0);
        Due.is("burnt -1", x, x.burnt(-1), -1, 2);
        Due.is("lastDay", x, x.lastDay(), 9, 0);
        // Of sparks that come on one day the first house's count, told in whatever order; its own cause is ahead of them.
        x = Due.street("street fright 0;house a timber day 3 by 1;house b timber day 4 by 1;house c timber calm;"
                + "house d timber day 5 by 1;spark b c days 1;spark a c days 2;spark a d days 2;does a cut");
        Due.is("both on day 5", x.burns(2), 5);
        Due.is("lit by the first", x.litBy(2), 0);
        Due.is("own ahead of sparks", x.litBy(3), -2);
        x.tell(0);
        Due.is("lit by the one left", x.litBy(2), 1);
        // Sparks in a ring burn nothing by themselves.
        x = Due.street("street fright 0;house a thatch calm;house b thatch calm;spark a b days 0;spark b a days 1");
        Due.is("nothing", x, x.burns(0), -2, 0);
        Due.is("lit by none", x, x.litBy(0), -2, 0);
        Due.is("no last day", x, x.lastDay(), -2, 0);
        // A later cause doesn't count, a stone house burns by its own alone.
        x = Due.street("street fright 0;house a timber day 0 by 1;house b timber day 9 by 1;house c stone day 60 by 1;"
                + "spark a b days 0;spark a c days 0");
        Due.is("at once", x.burns(1), 0);
        Due.is("by a", x.litBy(1), 0);
        Due.is("stone", x.burns(2), 60);
    }

    private static void lateFires() {
        NextBell x = Due.street(LATE);
        for (int h = 0; h < 6; h++) {
            Due.is("late " + h, x.burns(h), 60 + 10 * h);
            Due.is("late by " + h, x.litBy(h), h == 0 ? -2 : h - 1);
        }
        Due.is("late burnt 59", x.burnt(59), 0);
        Due.is("late burnt 90", x.burnt(90), 15);
        Due.is("late lastDay", x.lastDay(), 110);
        Due.is("late next 89", x.next(89), 3);
        Due.is("late next 90", x, x.next(90), 4, 0);
        Due.is("late agrees 90", x, x.agrees(90), 16, 0);
        Due.is("late dumbDay", x, x.dumbDay(), -2, 0);
        Due.is("late wayBurnt", x.wayBurnt(0), 1);
        Due.is("late odds 3", x.odds(3, 90, false), 1);
        Due.is("late odds 4", x.odds(4, 90, false), 0);
        Due.is("late mean", x.mean(90, false), 4);
        Due.is("late years 3", x.years(3, 0, 60), 60);
        Due.is("late years 4", x.years(4, 0, 60), 0);
        Due.is("late worst", x.worstYear(0, 60), 4);
        Due.is("late safe 59", x, x.safe(59), 0, 0);
        Due.is("late safe 60", x, x.safe(60), -2, 0);
        Due.is("late bestCut", x, x.bestCut(), 0, 0);
    }

    private static void nextAndAgrees() {
        NextBell x = Due.street(ROW);
        int[] next = {0, 0, 0, 0, 0, 1, 1, 1, 2, -2};
        int[] agrees = {1, 1, 1, 1, 1, 2, 2, 2, 0, 0};
        for (int day = 0; day < 10; day++) {
            Due.is("next " + day, x, x.next(day), next[day], 0);
            Due.is("agrees " + day, x, x.agrees(day), agrees[day], 0);
        }
        Due.is("next 90", x, x.next(90), -2, 0);
        Due.is("next 91", x, x.next(91), -1, 2);
        Due.is("next -1", x, x.next(-1), -1, 2);
        Due.is("agrees 91", x, x.agrees(91), -1, 2);
        Due.is("agrees -1", x, x.agrees(-1), -1, 2);
        x.day();
        Due.is("agrees ahead of now", x, x.agrees(0), -1, 2);
        Due.is("agrees now", x, x.agrees(1), 1, 0);
        Due.is("next ahead of now", x, x.next(0), 0, 0);
        // A pulled wire: never for him.
        x.pull(0);
        Due.is("next but a", x.next(1), 1);
        x = Due.street(EITHER);
        Due.is("either", x, x.agrees(0), 3, 0);
        Due.is("next is b", x.next(0), 1);
        x = Due.street(PANICS);
        Due.is("of like ones the first", x.next(0), 0);
        Due.is("each would be the first", x.agrees(0), 3);
        Due.is("on day 9 each burns too soon", x.agrees(9), 0);
        x.tell(1);
        Due.is("b told, either", x.agrees(0), 3);
        x.tell(0);
        Due.is("both told, the first", x.agrees(0), 1);
        Due.is("told already, he panics no more", x.agrees(8), 1);
    }

    private static void ifTold() {
        NextBell x = Due.street(ROW);
        Due.is("b if a", x, x.burnsIf(1, 0), -2, 0);
        Due.is("a if a", x, x.burnsIf(0, 0), 5, 0);
        Due.is("c if c", x, x.burnsIf(2, 2), 8, 0);
        Due.is("c if d", x, x.burnsIf(2, 3), 9, 0);
        Due.is("burnsIf 4 0", x, x.burnsIf(4, 0), -1, 1);
        Due.is("burnsIf 0 4", x, x.burnsIf(0, 4), -1, 1);
        Due.is("burnsIf 0 -1", x, x.burnsIf(0, -1), -1, 1);
        int[] saves = {101, 100, 100, 100};
        for (int h = 0; h < 4; h++) {
            Due.is("saves " + h, x, x.saves(h), saves[h], 0);
        }
        Due.is("saves 4", x, x.saves(4), -1, 1);
        Due.is("bestTold", x, x.bestTold(), 0, 0);
        Due.is("nothing was done", x.size(9), 0);
        for (int day = 0; day < 4; day++) {
            x.day();
        }
        Due.is("a day ahead", x, x.burnsIf(1, 0), -2, 0);
        x.day();
        Due.is("a burns now", x, x.burnsIf(1, 0), -1, 5);
        Due.is("a burns now, saves", x, x.saves(0), -1, 5);
        Due.is("none any more", x, x.bestTold(), -2, 0);
        Due.is("b can still be told", x, x.burnsIf(1, 1), 8, 0);
        Due.is("a wrong house is told ahead of that", x, x.burnsIf(9, 0), -1, 1);
        x.day();
        Due.is("a burnt yesterday", x, x.saves(0), -1, 5);

        x = Due.street(DOUSE);
        Due.is("douse saves two", x, x.saves(0), 102, 0);
        Due.is("best douses", x.bestTold(), 0);
        x.tell(0);
        Due.is("told already, no more", x, x.saves(0), 100, 0);
        Due.is("none fewer", x, x.bestTold(), -2, 0);
        // Of like ones the first, and the one by whom fewest burn, not the first who helps.
        x = Due.street("street fright 0;house a timber day 9 by 1;house b timber day 9 by 1;house c timber day 9 by 1;"
                + "house d stone day 9 by 1;house e timber calm;spark b e days 1;spark c e days 1;"
                + "does a douse;does c douse;does d douse");
        Due.is("the first of like ones", x.bestTold(), 0);
        x = Due.street("street fright 0;house a timber day 9 by 1;house b timber day 9 by 1;house e timber calm;"
                + "spark b e days 1;does a douse;does b douse");
        Due.is("the best", x.bestTold(), 1);
    }

    private static void dumbDays() {
        NextBell x = Due.street(ROW);
        Due.is("dumb on day 8", x, x.dumbDay(), 8, 0);
        for (int day = 0; day < 8; day++) {
            x.day();
        }
        Due.is("dumb today", x, x.dumbDay(), 8, 0);
        x.day();
        Due.is("nobody next", x, x.dumbDay(), -2, 0);
        Due.is("dumb at once", Due.street(DOUSE).dumbDay(), 0);
        x = Due.street(PANICS);
        Due.is("panics are dumb the day ahead", x.dumbDay(), 9);
        x.pull(0);
        x.pull(1);
        Due.is("no wires", x, x.dumbDay(), -2, 0);
    }

    private static void ways() {
        NextBell x = Due.street(EITHER);
        Due.is("two ways", x, x.ways(), 2, 0);
        Due.is("way 0", x, x.wayAt(0, 0), 0, 0);
        Due.is("way 1", x, x.wayAt(1, 0), 1, 0);
        Due.is("way 2", x, x.wayAt(2, 0), -1, 1);
        Due.is("way -1", x, x.wayAt(-1, 0), -1, 1);
        Due.is("ring 1", x, x.wayAt(0, 1), -1, 1);
        Due.is("ring -1", x, x.wayAt(0, -1), -1, 1);
        Due.is("wayBurnt 0", x, x.wayBurnt(0), 3, 0);
        Due.is("wayBurnt 1", x, x.wayBurnt(1), 2, 0);
        Due.is("wayBurnt 2", x, x.wayBurnt(2), -1, 1);
        Due.is("wayBurnt -1", x, x.wayBurnt(-1), -1, 1);
        Due.is("bestWay", x, x.bestWay(), 1, 0);
        Due.is("couldRing", x, x.couldRing(), 3, 0);
        x.pull(1);
        Due.is("one way by wires now", x, x.ways(), 1, 0);
        Due.is("one could", x.couldRing(), 1);
        Due.is("best is left", x.bestWay(), 0);
        x.undo();
        Due.is("two again", x.ways(), 2);
        x.day();
        Due.is("no glass is left", x, x.ways(), 1, 0);
        Due.is("no ring", x, x.wayAt(0, 0), -1, 1);
        Due.is("nobody could", x, x.couldRing(), 0, 0);
        Due.is("burnt anyhow", x.wayBurnt(0), 3);

        x = Due.street(PANICS);
        int[][] rows = {{0, 0, -2}, {1, 0, -2}, {1, 1, -2}};
        Due.is("three ways", x.ways(), 3);
        for (int i = 0; i < 3; i++) {
            for (int k = 0; k < 3; k++) {
                Due.is("way " + i + " ring " + k, x, x.wayAt(i, k), rows[i][k], 0);
            }
        }
        Due.is("of like ones the first", x.bestWay(), 0);
        x.day();
        Due.is("those ahead aside", x.wayAt(0, 1), -2);
        Due.is("glass of this day comes", x.wayAt(1, 0), 1);
        Due.is("two rings", x, x.wayAt(0, 2), -1, 1);
        x.tell(0);
        Due.is("by those told now", x.ways(), 1);

        x = Due.street(ROW);
        Due.is("row: one way", x.ways(), 1);
        Due.is("row: c by those told so far", x.wayAt(0, 1), 2);
        Due.is("row: couldRing", x.couldRing(), 5);
        // Four glasses, six houses that panic alike: all told so far count.
        x = Due.street("street fright 0;house a timber day 40 by 1;house b timber day 40 by 1;house c timber day 40 by 1;"
                + "house d timber day 40 by 1;house e timber day 40 by 1;house f timber day 40 by 1;does a panic;"
                + "does b panic;does c panic;does d panic;does e panic;does f panic;glass day 0;glass day 1;"
                + "glass day 2;glass day 3");
        // From the lowest told on, each ring goes for one no higher: rows that don't rise.
        Due.is("many ways", x.ways(), 126);
        Due.is("the last way", x.wayAt(125, 0) + 10 * x.wayAt(125, 3), 55);
        Due.is("way 6", x.wayAt(6, 0) + 10 * x.wayAt(6, 1) + 100 * x.wayAt(6, 2), 2 + 10 * 1 + 0);
    }

    /** Each call that asks for ways makes them itself, anew for each street. */
    private static void waysAnew() {
        Due.is("bestWay first", Due.street(EITHER).bestWay(), 1);
        Due.is("couldRing first", Due.street(EITHER).couldRing(), 3);
        Due.is("wayBurnt first", Due.street(EITHER).wayBurnt(1), 2);
        Due.is("wayAt first", Due.street(EITHER).wayAt(1, 0), 1);
        NextBell x = Due.street(EITHER);
        Due.is("two", x.ways(), 2);
        Due.is("a fit", x.fits(), 1);
        Due.tell(x, "street fright 0;house a timber day 61 by 0");
        Due.is("day 61 is out of bounds", x.fault(), 4);
        Due.is("still two", x.ways(), 2);
        Due.tell(x, "street fright 0;house a timber day 60 by 0;house z timber calm;house zz timber calm;"
                + "spark a z days 1;spark a zz days 0;unknown z;glass day 5;glass day 6");
        Due.is("one", x.ways(), 1);
        Due.is("its second ring", x.wayAt(0, 1), 0);
        Due.is("eleven fits", x.fits(), 11);
        Due.is("one burns on day 61", x.wayBurnt(0), 2);
    }

    private static void safe() {
        NextBell x = Due.street(ROW);
        Due.is("safe 4", x, x.safe(4), 0, 0);
        Due.is("safe 5", x, x.safe(5), -2, 0);
        Due.is("safe 91", x, x.safe(91), -1, 2);
        Due.is("safe -1", x, x.safe(-1), -1, 2);
        x = Due.street("street fright 0;house a timber day 1 by 1;house b timber day 9 by 1;house c timber calm;"
                + "house d timber day 12 by 1;spark b c days 1;does b douse;does d douse");
        Due.is("a can't be helped", x, x.safe(9), -2, 0);
        x.day();
        Due.is("safe 8", x, x.safe(8), 0, 0);
        Due.is("safe 9", x, x.safe(9), 2, 0);
        Due.is("safe 11", x, x.safe(11), 2, 0);
        Due.is("safe 12", x, x.safe(12), 10, 0);
        Due.is("ahead of now", x, x.safe(0), 0, 0);
        x.tell(1);
        Due.is("b was told", x, x.safe(90), 8, 0);
        // A wire that is pulled is no reason not to tell.
        x.pull(3);
        Due.is("d without a wire", x, x.safe(90), 8, 0);
        // Once it burns it can't be told.
        for (int day = 1; day < 12; day++) {
            x.day();
        }
        Due.is("d burns already", x, x.safe(90), 0, 0);
        x = Due.street("street fright 0;house a timber day 0 by 1;house b timber calm;house c thatch calm;"
                + "spark a b days 2;spark b c days 2;does a cut;does b cut");
        Due.is("by day 2 b burns", x, x.safe(2), -2, 0);
        Due.is("by day 1 nothing more does", x, x.safe(1), 0, 0);
        x.day();
        x.day();
        Due.is("cut ahead of c", x, x.safe(90), -2, 0);
    }

    private static void cuts() {
        Due.is("row", Due.street(ROW).bestCut(), 0);
        Due.is("none fewer", Due.street("street fright 0;house a timber day 1 by 1;house b timber calm;"
                + "house c timber day 2 by 1;spark a b days 1;spark c b days 9").bestCut(), -2);
        NextBell x = Due.street("street fright 0;house a timber day 1 by 1;house b timber calm;house c timber calm;"
                + "house d timber calm;spark c d days 1;spark b c days 1;spark a b days 1;does a cut");
        Due.is("the last told is the best", x, x.bestCut(), 2, 0);
        x.tell(0);
        Due.is("all are cut", x, x.bestCut(), -2, 0);
        x = Due.street("street fright 0;house a timber day 1 by 1;house b timber calm;house c timber calm;"
                + "spark a c days 1;spark a b days 1");
        Due.is("of like ones the first", x.bestCut(), 0);
    }

    private static void fits() {
        NextBell x = Due.street(ROW);
        Due.is("fits", x, x.fits(), 2, 0);
        Due.is("fit 0", x, x.fitAt(0, 0), 6, 0);
        Due.is("fit 1", x, x.fitAt(1, 0), 7, 0);
        Due.is("fit 2", x, x.fitAt(2, 0), -1, 1);
        Due.is("fit -1", x, x.fitAt(-1, 0), -1, 1);
        Due.is("second unknown", x, x.fitAt(0, 1), -1, 1);
        Due.is("unknown -1", x, x.fitAt(0, -1), -1, 1);
        Due.is("nextBy 2 5", x, x.nextBy(2, 5), 2, 0);
        Due.is("nextBy 2 6", x, x.nextBy(2, 6), 1, 0);
        Due.is("nextBy 1 6", x, x.nextBy(1, 6), 1, 0);
        Due.is("nextBy 3 6", x, x.nextBy(3, 6), 0, 0);
        Due.is("nextBy 0 90", x, x.nextBy(0, 90), 0, 0);
        Due.is("nextBy 4 91", x, x.nextBy(4, 91), -1, 1);
        Due.is("nextBy 0 91", x, x.nextBy(0, 91), -1, 2);
        Due.is("nextBy 0 -1", x, x.nextBy(0, -1), -1, 2);
        Due.is("tryDay", x, x.tryDay(), 6, 0);
        Due.is("tryLeaves", x, x.tryLeaves(), 1, 0);
        // From the beginning: nothing done since counts.
        x.tell(0);
        x.tell(2);
        x.mend(3);
        x.pull(1);
        x.day();
        Due.is("fits anyhow", x.fits(), 2);
        Due.is("nextBy anyhow", x.nextBy(1, 6), 1);
        Due.is("tryDay anyhow", x.tryDay(), 6);
        Due.is("judge anyhow", x.judge(), 1);
        x = Due.street("street fright 0;house a timber day 3 by 1;unknown a;rung day 9 a");
        Due.is("no fits", x, x.fits(), 0, 0);
        Due.is("no try", x, x.tryDay(), -2, 0);
        Due.is("nothing left", x, x.tryLeaves(), -2, 0);
        Due.is("no fit 0", x, x.fitAt(0, 0), -1, 1);
        Due.is("nextBy none", x, x.nextBy(0, 0), 0, 0);
        x = Due.street("street fright 0;house a timber day 3 by 1;rung day 2 a");
        Due.is("nothing unknown", x.fits(), 1);
        Due.is("none unknown", x, x.fitAt(0, 0), -1, 1);
        x = Due.street("street fright 0;house a stone calm;unknown a;rung day 9 nobody;rung day 0 a");
        Due.is("any day but 0 and none", x.fits(), 9);
        Due.is("from 1", x.fitAt(0, 0), 1);
        Due.is("to 9", x.fitAt(8, 0), 9);
        Due.is("half are left", x.tryLeaves(), 5);
        Due.is("on day 4", x.tryDay(), 4);
    }

    private static void twoUnknown() {
        NextBell x = Due.street("street fright 0;house a timber day 5 by 1;house b timber calm;unknown b;unknown a;"
                + "rung day 8 a");
        Due.is("eleven", x.fits(), 11);
        for (int i = 0; i < 11; i++) {
            Due.is("b by " + i, x, x.fitAt(i, 0), i == 10 ? -2 : i, 0);
            Due.is("a by " + i, x, x.fitAt(i, 1), 9, 0);
        }
        Due.is("b next on 0", x.nextBy(1, 0), 8);
        Due.is("a next on 0", x.nextBy(0, 0), 3);
        Due.is("a next on 9", x.nextBy(0, 9), 0);
        Due.is("try on 2", x.tryDay(), 2);
        Due.is("six left", x.tryLeaves(), 6);
        x = Due.street("street fright 0;house a timber day 5 by 1;house b timber calm;unknown a;unknown b;"
                + "rung day 0 nobody");
        int[][] due = {{0, 0}, {0, -2}, {-2, 0}, {-2, -2}};
        Due.is("four", x.fits(), 4);
        for (int i = 0; i < 4; i++) {
            Due.is("a by " + i, x.fitAt(i, 0), due[i][0]);
            Due.is("b by " + i, x.fitAt(i, 1), due[i][1]);
        }
        Due.is("nobody anyhow", x.tryDay(), 0);
        Due.is("all left", x.tryLeaves(), 4);
        x = Due.street("street fright 0;house a timber day 5 by 1;house b timber calm;unknown a;unknown b");
        Due.is("all", x.fits(), 121);
        Due.is("the last", x.fitAt(120, 0), -2);
        Due.is("120 has no more", x, x.fitAt(121, 0), -1, 1);
    }

    /** c burns 19 days behind a, so that the days to try are the last. */
    private static void lateTry() {
        NextBell x = Due.street("street fright 0;house a timber calm;house b brick calm;house c timber calm;"
                + "spark a b days 9;spark b c days 9;unknown a;pulled a;pulled b");
        Due.is("first: leaves", x.tryLeaves(), 8);
        Due.is("day 20", x, x.tryDay(), 20, 0);
        Due.is("on day 27", x.nextBy(2, 27), 1);
        Due.is("on day 28", x.nextBy(2, 28), 0);
        Due.is("first: tryDay", Due.street(ROW).tryDay(), 6);
        Due.is("first: fitAt", Due.street(ROW).fitAt(1, 0), 7);
        Due.is("first: nextBy", Due.street(ROW).nextBy(1, 6), 1);
        Due.is("no house 3", x, x.nextBy(3, 0), -1, 1);
    }

    private static void judges() {
        Due.is("row", Due.street(ROW).judge(), 1);
        String one = "street fright 0;house a timber day 3 by 1;house b timber day 5 by 1;unknown a;";
        Due.is("all so", Due.street(one + "rung day 0 a;rung day 3 b;rung day 5 nobody").judge(), -2);
        Due.is("the first not so", Due.street(one + "rung day 4 a;rung day 5 a").judge(), 0);
        Due.is("nobody isn't so", Due.street(one + "rung day 3 b;rung day 0 nobody;rung day 9 a").judge(), 1);
        Due.is("wires as told", Due.street(one + "pulled a;rung day 0 b").judge(), -2);
        NextBell x = Due.street(one + "rung day 0 a");
        x.pull(0);
        Due.is("from the beginning", x, x.judge(), -2, 0);
        Due.is("none rung", x, Due.street("street fright 0;house a stone calm").judge(), -2, 0);
    }

    private static void two() {
        int[] rests = {2, 2, 2, 2, 3, 1, 1, 1, 1, 1};
        int[] rest = {1, 1, 1, 1, 0, 0, 0, 0, 0, 0};
        for (int f = 0; f <= 9; f++) {
            NextBell x = Due.street("street fright " + f + ";house a stone calm");
            Due.is("alone", x, x.rings(true, false, false), 4 - f, 0);
            Due.is("alone, the other", x, x.rings(true, false, true), 3, 0);
            Due.is("the other alone", x, x.rings(false, true, true), 4 - f, 0);
            Due.is("the other alone, the one", x, x.rings(false, true, false), 3, 0);
            Due.is("both", x, x.rings(true, true, false), 1 - f, 0);
            Due.is("both, the other", x, x.rings(true, true, true), 1 - f, 0);
            Due.is("neither", x, x.rings(false, false, false), 0, 0);
            Due.is("rests by " + f, x, x.rests(), rests[f], 0);
            Due.is("rest by " + f, x, x.rest(), rest[f], 0);
        }
    }

    private static void part(String what, NextBell x, long upper, long lower, long wantUpper, long wantLower) {
        Due.is(what + ", upper", upper, wantUpper);
        Due.is(what + ", lower", x, lower, wantLower, 0);
    }

    private static void chance() {
        NextBell x = Due.street(CHANCE);
        part("a by 2", x, x.odds(0, 2, false), x.odds(0, 2, true), 1, 2);
        part("a by 0", x, x.odds(0, 0, false), x.odds(0, 0, true), 0, 1);
        part("quiet 0", x, x.quiet(0, false), x.quiet(0, true), 1, 1);
        part("mean 0", x, x.mean(0, false), x.mean(0, true), 0, 1);
        part("a by 1", x, x.odds(0, 1, false), x.odds(0, 1, true), 0, 1);
        part("b by 3", x, x.odds(1, 3, false), x.odds(1, 3, true), 1, 2);
        part("b by 4", x, x.odds(1, 4, false), x.odds(1, 4, true), 3, 5);
        part("c by 90", x, x.odds(2, 90, false), x.odds(2, 90, true), 0, 1);
        part("quiet 1", x, x.quiet(1, false), x.quiet(1, true), 1, 1);
        part("quiet 4", x, x.quiet(4, false), x.quiet(4, true), 2, 5);
        part("mean 1", x, x.mean(1, false), x.mean(1, true), 0, 1);
        part("mean 3", x, x.mean(3, false), x.mean(3, true), 1, 1);
        part("mean 90", x, x.mean(90, false), x.mean(90, true), 11, 10);
        Due.is("odds 3 0", x, x.odds(3, 0, false), -1, 1);
        Due.is("odds -1 91", x, x.odds(-1, 91, false), -1, 1);
        Due.is("odds 0 91", x, x.odds(0, 91, true), -1, 2);
        Due.is("odds 0 -1", x, x.odds(0, -1, true), -1, 2);
        Due.is("quiet 91", x, x.quiet(91, true), -1, 2);
        Due.is("mean -1", x, x.mean(-1, false), -1, 2);
        x.tell(0);
        part("b, a doused", x, x.odds(1, 4, false), x.odds(1, 4, true), 1, 5);
        x.tell(1);
        part("b panics", x, x.odds(1, 3, false), x.odds(1, 3, true), 1, 5);
        x.undo();
        x.undo();
        part("undone", x, x.odds(1, 4, false), x.odds(1, 4, true), 3, 5);
        // Six causes of odd hundredths: the lower one is a hundred to the sixth.
        x = Due.street("street fright 0;house a stone day 1 by 1;house b stone day 1 by 3;house c stone day 1 by 7;"
                + "house d stone day 1 by 9;house e stone day 1 by 11;house f stone day 1 by 13");
        part("all", x, x.quiet(1, false), x.quiet(1, true), 99L * 97 * 93 * 91 * 89 * 87 / 1, 1000000000000L);
        part("all, mean", x, x.mean(1, false), x.mean(1, true), 11, 25);
    }

    private static void years() {
        NextBell x = Due.street("street fright 0;house a timber day 1 by 25;does a douse");
        // From seed 0 come 74, 5624, ..
        Due.is("first draw 74", x, x.years(0, 0, 1), 0, 0);
        Due.is("second 24", x, x.years(0, 0, 2), 1, 0);
        Due.is("worst", x, x.worstYear(0, 1), 0, 0);
        Due.is("worst of two", x, x.worstYear(0, 2), 1, 0);
        Due.is("no years", x, x.years(0, 0, 0), 0, 0);
        Due.is("worst of none", x, x.worstYear(0, 0), 0, 0);
        Due.is("years 1 0 1", x, x.years(1, 0, 1), -1, 1);
        Due.is("years 1 -1 1", x, x.years(1, -1, 1), -1, 1);
        Due.is("years 0 -1 1", x, x.years(0, -1, 1), -1, 2);
        Due.is("years 0 65537 1", x, x.years(0, 65537, 1), -1, 2);
        Due.is("years 0 0 61", x, x.years(0, 0, 61), -1, 2);
        Due.is("years 0 0 -1", x, x.years(0, 0, -1), -1, 2);
        Due.is("worst -1 1", x, x.worstYear(-1, 1), -1, 2);
        Due.is("worst 65537 1", x, x.worstYear(65537, 1), -1, 2);
        Due.is("worst 0 61", x, x.worstYear(0, 61), -1, 2);
        x.tell(0);
        Due.is("doused", x, x.years(0, 0, 60), 0, 0);
        // Seed 65,536 stays: 36 each time.
        Due.is("36 below 37", Due.street("street fright 0;house a timber day 1 by 37").years(0, 65536, 60), 60);
        Due.is("36 not below 36", Due.street("street fright 0;house a timber day 1 by 36").years(0, 65536, 60), 0);
        // Only a house with a cause draws: a is calm, so b has 74.
        x = Due.street("street fright 0;house a timber calm;house b timber day 60 by 75;spark b a days 9");
        Due.is("b comes", x.years(1, 0, 1), 1);
        Due.is("a by sparks", x.years(0, 0, 1), 1);
        Due.is("two houses", x.worstYear(0, 1), 2);
    }

    private static void acts() {
        NextBell x = Due.street(ROW);
        Due.is("tell 4", x, x.tell(4), -1, 1);
        Due.is("tell -1", x, x.tell(-1), -1, 1);
        Due.is("tell 1", x, x.tell(1), 8, 0);
        Due.is("tell 1 again", x, x.tell(1), -1, 5);
        Due.is("tell 2", x, x.tell(2), 8, 0);
        Due.is("one refused isn't kept", x.size(9), 2);
        Due.is("c burns with b", x.burnt(8), 15);
        for (int day = 0; day < 5; day++) {
            x.day();
        }
        Due.is("a burns", x, x.tell(0), -1, 5);
        x.undo();
        Due.is("a day ahead", x, x.tell(0), 5, 0);
        Due.is("b has no sparks", x, x.burns(1), -2, 0);
        x = Due.street("street fright 0;house a timber day 0 by 1;house b timber day 1 by 1;house c thatch calm;"
                + "spark b c days 1;does a panic;does b panic");
        Due.is("on day 0 already", x, x.tell(0), -1, 5);
        Due.is("panic to day 0", x, x.tell(1), 0, 0);
        Due.is("c with it", x.burns(2), 0);
        Due.is("c burns now", x, x.tell(2), -1, 5);
    }

    private static void wires() {
        NextBell x = Due.street(ROW);
        Due.is("pull 4", x, x.pull(4), false, 1);
        Due.is("mend -1", x, x.mend(-1), false, 1);
        Due.is("pull 3", x, x.pull(3), false, 5);
        Due.is("mend 0", x, x.mend(0), false, 5);
        Due.is("pull 0", x, x.pull(0), true, 0);
        Due.is("pulled", x.house(0, 5), 1);
        Due.is("next is b", x.next(0), 1);
        Due.is("mend 3", x, x.mend(3), true, 0);
        Due.is("mended", x.house(3, 5), 0);
        Due.is("next is d", x.next(0), 3);
        Due.is("as told", x.size(4), 1);
        Due.is("mend 0", x, x.mend(0), true, 0);
        Due.is("next is a", x.next(0), 0);
        Due.is("acts", x.size(9), 3);
    }

    private static void days() {
        NextBell x = Due.street(LATE);
        for (int day = 1; day <= 90; day++) {
            Due.is("day " + day, x, x.day(), day >= 60 && day % 10 == 0 ? 1 << (day - 60) / 10 : 0, 0);
        }
        Due.is("day 91", x, x.day(), -1, 3);
        Due.is("day 90", x.size(8), 90);
        Due.is("d burns now", x, x.tell(3), -1, 5);
        Due.is("e burns later", x, x.tell(4), 100, 0);
        Due.is("agrees 89", x, x.agrees(89), -1, 2);
        Due.is("agrees 90", x, x.agrees(90), 16, 0);
        Due.is("safe 90", x, x.safe(90), 0, 0);
        Due.is("no glass", x.ways(), 1);
    }

    private static void undoing() {
        NextBell x = Due.street(ROW);
        x.tell(2);
        x.pull(0);
        x.mend(3);
        x.day();
        Due.is("acts", x.size(9), 4);
        Due.is("undo day", x, x.undo(), true, 0);
        Due.is("day", x.size(8), 0);
        Due.is("undo mend", x, x.undo(), true, 0);
        Due.is("pulled", x.house(3, 5), 1);
        Due.is("undo pull", x, x.undo(), true, 0);
        Due.is("not pulled", x.house(0, 5), 0);
        Due.is("still told", x.house(2, 4), 1);
        Due.is("undo tell", x, x.undo(), true, 0);
        Due.is("not told", x.house(2, 4), 0);
        Due.is("burns as told", x.burns(2), 9);
        Due.is("nothing to undo", x, x.undo(), false, 6);
        for (int i = 0; i < 20; i++) {
            x.day();
        }
        Due.is("16 are kept", x.size(9), 16);
        for (int i = 0; i < 16; i++) {
            Due.is("undo " + i, x, x.undo(), true, 0);
        }
        Due.is("no more", x, x.undo(), false, 6);
        Due.is("day 4", x.size(8), 4);
    }

    private static void images() {
        NextBell x = Due.street(ROW);
        Due.is("back 0 of none", x, x.back(0), false, 1);
        Due.is("image 0", x, x.image(), 0, 0);
        x.tell(2);
        x.pull(0);
        Due.is("image 1", x, x.image(), 1, 0);
        x.day();
        x.mend(3);
        Due.is("image 2", x, x.image(), 2, 0);
        Due.is("image 3", x, x.image(), -1, 3);
        Due.is("images", x.size(10), 3);
        Due.is("an image is no act", x.size(9), 4);
        Due.is("back 3", x, x.back(3), false, 1);
        Due.is("back -1", x, x.back(-1), false, 1);
        Due.is("still to undo", x.size(9), 4);
        Due.is("back 1", x, x.back(1), true, 0);
        Due.is("day", x.size(8), 0);
        Due.is("told", x.house(2, 4), 1);
        Due.is("pulled", x.house(0, 5), 1);
        Due.is("not mended", x.house(3, 5), 1);
        Due.is("nothing to undo", x, x.undo(), false, 6);
        Due.is("images stay", x.size(10), 3);
        Due.is("back 0", x, x.back(0), true, 0);
        Due.is("nobody told", x.house(2, 4), 0);
        Due.is("back 2", x, x.back(2), true, 0);
        Due.is("day 1", x.size(8), 1);
        Due.is("mended", x.house(3, 5), 0);
    }

    private static void led() {
        NextBell x = Due.street(ROW);
        Due.is("all burn", Due.led(x, 0), -99);
        x.tell(0);
        Due.is("b doesn't", Due.led(x, 0), 1);
        Due.is("no other", Due.led(x, 1), -99);
        Due.is("led -1", Due.led(x, -1), -99);
        Due.is("led least", Due.led(x, Integer.MIN_VALUE), -99);
        x = Due.street("street fright 0;house a stone calm;house b timber day 1 by 0;house c brick calm");
        Due.is("led 0", Due.led(x, 0), 0);
        Due.is("led 1", Due.led(x, 1), 2);
        Due.is("led 2", Due.led(x, 2), -99);
    }

    private static void noStreet() {
        NextBell x = new NextBell();
        int[] got = {x.house(0, 0), x.spark(0, 1), x.burns(0), x.litBy(0), x.burnt(0), x.lastDay(), x.next(0), x.agrees(0),
            x.burnsIf(0, 0), x.saves(0), x.bestTold(), x.dumbDay(), x.ways(), x.wayAt(0, 0), x.bestWay(), x.wayBurnt(0),
            x.couldRing(), x.safe(0), x.bestCut(), x.fits(), x.fitAt(0, 0), x.nextBy(0, 0), x.tryDay(), x.tryLeaves(),
            x.judge(), x.rests(), x.rest(), x.years(0, 0, 0), x.worstYear(0, 0), x.tell(0), x.day(), x.image()};
        for (int i = 0; i < got.length; i++) {
            Due.is("no street " + i, x, got[i], -1, 1);
        }
        for (int i = 0; i < 28; i++) {
            x.undo();
            Due.is("no street, call " + i, x, refused(x, i), -1, 1);
        }
        Due.is("no rings", x, x.rings(false, false, false), -100, 1);
    }

    private static long refused(NextBell x, int i) {
        return switch (i) {
            case 0 -> x.house(0, 0);
            case 1 -> x.spark(0, 1);
            case 2 -> x.burns(0);
            case 3 -> x.litBy(0);
            case 4 -> x.burnt(0);
            case 5 -> x.lastDay();
            case 6 -> x.next(0);
            case 7 -> x.agrees(0);
            case 8 -> x.burnsIf(0, 0);
            case 9 -> x.saves(0);
            case 10 -> x.bestTold();
            case 11 -> x.dumbDay();
            case 12 -> x.ways();
            case 13 -> x.wayAt(0, 0);
            case 14 -> x.bestWay();
            case 15 -> x.wayBurnt(0);
            case 16 -> x.couldRing();
            case 17 -> x.safe(0);
            case 18 -> x.bestCut();
            case 19 -> x.fits() + x.fitAt(0, 0) - x.nextBy(0, 0);
            case 20 -> x.tryDay();
            case 21 -> x.tryLeaves();
            case 22 -> x.judge();
            case 23 -> x.rests() + x.rest() - x.years(0, 0, 0);
            case 24 -> x.quiet(0, false);
            case 25 -> x.mean(0, true);
            case 26 -> x.worstYear(0, 0);
            default -> x.image();
        };
    }
}
