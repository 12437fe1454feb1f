/** The boundary cases of Terms III as promises 18 to 38 ask for them: WAYS, SAFE, FITS, TRY, REST, CHANCE, YEARS. */
public final class EdgeWaysTest {
    private static final String S = "street fright 0;";
    /** They burn on days 60, 70, .. 110. */
    private static final String LATE = S + "house a timber day 60 by 100;house b brick calm;house c brick calm;"
            + "house d brick calm;house e brick calm;house f brick calm;spark a b days 9;spark b c days 9;"
            + "spark c d days 9;spark d e days 9;spark e f days 9";
    private static final String CALM = S + "house a timber calm;house b stone calm;spark a b days 1;spark b a days 0";
    /** On day 0 either rings: b is next, a would be by panic; b would cut its sparks to c. */
    private static final String EITHER = S + "house a timber day 10 by 1;house b timber day 9 by 1;house c timber calm;"
            + "spark b c days 1;does a panic;does b cut;glass day 0";
    private static final String PANICS = S + "house a timber day 10 by 50;house b timber day 10 by 50;"
            + "does a panic;does b panic;glass day 0;glass day 1;glass day 9";
    private static final int[] NO_DAY = {-1, 91, Edge.LEAST, Edge.MOST};
    private static final int[] NO_HOUSE = {-1, 2, 6, 32, Edge.LEAST, Edge.MOST};

    private EdgeWaysTest() {
    }

    public static void main(String[] args) {
        ways();
        glassesOfDays();
        waysByAllTold();
        waysBehindActs();
        wayAt();
        bestWay();
        wayBurnt();
        couldRing();
        safe();
        safeAlready();
        bestCut();
        fits();
        fitAt();
        nextBy();
        tries();
        judge();
        rings();
        rests();
        odds();
        quietAndMean();
        lowestTerms();
        years();
        draws();
        worstYear();
        Due.end("EdgeWaysTest");
    }

    // ---- promises 18 to 22

    /** Promise 18: "NONE: 1 (no STREET)."; "or, if there is none, for nobody" */
    private static void ways() {
        Edge.no(null, "", "ways", 1, x -> x.ways());
        Edge.is(CALM, "", "no glasses: one way of no rings", 1, x -> x.ways());
        Edge.is(CALM + ";glass day 0;glass day 1;glass day 2;glass day 30", "", "all for nobody", 1, x -> x.ways());
        Edge.is(EITHER, "", "two", 2, x -> x.ways());
        Edge.is(PANICS, "", "three", 3, x -> x.ways());
        Edge.is(EITHER, "pull0", "wires as now", 1, x -> x.ways());
        Edge.is(EITHER, "pull0 undo", "wires as now, undone", 2, x -> x.ways());
        Edge.is(EITHER, "image pull0 back0", "wires as by the image", 2, x -> x.ways());
        // Six houses, four glasses: behind the first told only those ahead of the lowest one are sooner or like.
        String six = S + "house a timber day 40 by 1;house b timber day 40 by 1;house c timber day 40 by 1;"
                + "house d timber day 40 by 1;house e timber day 40 by 1;house f timber day 40 by 1;does a panic;"
                + "does b panic;does c panic;does d panic;does e panic;does f panic;glass day 0;glass day 1;"
                + "glass day 2;glass day 3";
        Edge.is(six, "", "rows that don't rise", 126, x -> x.ways());
        Edge.is(six, "", "the last one", 5555, x -> x.wayAt(125, 0) * 1000 + x.wayAt(125, 1) * 100 + x.wayAt(125, 2) * 10
                + x.wayAt(125, 3));
        Edge.no(six, "", "none behind the last", 1, x -> x.wayAt(126, 0));
    }

    /** "the glasses told are broken on their days (those ahead of NOW aside)" */
    private static void glassesOfDays() {
        Edge.is(PANICS, "day1", "the glass of today comes", 0, x -> x.wayAt(0, 0));
        Edge.is(PANICS, "day1", "the one of day 9 is the second", -2, x -> x.wayAt(0, 1));
        Edge.no(PANICS, "day1", "there is no third", 1, x -> x.wayAt(0, 2));
        Edge.is(PANICS, "day2", "only that of day 9", -2, x -> x.wayAt(0, 0));
        Edge.no(PANICS, "day2", "there is no second", 1, x -> x.wayAt(0, 1));
        Edge.is(PANICS, "day9", "today is day 9", -2, x -> x.wayAt(0, 0));
        Edge.is(PANICS, "day10", "none comes", 1, x -> x.ways());
        Edge.no(PANICS, "day10", "none comes, no ring", 1, x -> x.wayAt(0, 0));
        Edge.is(PANICS, "day10 undo", "undone, it comes", -2, x -> x.wayAt(0, 0));
        Edge.is(EITHER, "day1", "no glass is left", 0, x -> x.couldRing());
        String four = CALM + ";glass day 0;glass day 1;glass day 2;glass day 3";
        Edge.is(four, "day3", "the fourth is left", -2, x -> x.wayAt(0, 0));
        Edge.no(four, "day3", "it alone", 1, x -> x.wayAt(0, 1));
        Edge.is(four, "day4", "none of four is left", 1, x -> x.ways());
        Edge.no(four, "day4", "no ring of four", 1, x -> x.wayAt(0, 0));
        String last = S + "house a timber day 31 by 1;glass day 30";
        Edge.is(last, "day30", "day 30", 0, x -> x.wayAt(0, 0));
        Edge.no(last, "day31", "day 31", 1, x -> x.wayAt(0, 0));
    }

    /** "each time for one that AGREES, by all told so far", "all rows of houses; ordered house by house" */
    private static void waysByAllTold() {
        int[][] rows = {{0, 0, -2}, {1, 0, -2}, {1, 1, -2}};
        for (int i = 0; i < 3; i++) {
            for (int k = 0; k < 3; k++) {
                int way = i;
                int ring = k;
                Edge.is(PANICS, "", "row " + i + " ring " + k, rows[i][k], x -> x.wayAt(way, ring));
            }
        }
        Edge.is(PANICS, "tell0", "a was told: it rings for a alone", 1, x -> x.ways());
        Edge.is(PANICS, "tell1", "b was told: for a, then for a; for b, then for either", 3, x -> x.ways());
        // Rung for on day 0, a puts its cause out, so that the second ring is for b.
        String douse = S + "house a timber day 4 by 1;house b timber day 9 by 1;house c stone day 3 by 1;does a douse;"
                + "glass day 0;glass day 3";
        Edge.is(douse, "", "c first", 2, x -> x.wayAt(0, 0));
        Edge.is(douse, "", "a would douse", -2, x -> x.wayAt(0, 1));
        Edge.is(douse, "tell0", "a did", 1, x -> x.wayAt(0, 1));
        // Nobody first, somebody behind.
        String then = S + "house a timber day 3 by 1;house b timber day 9 by 1;does a douse;glass day 0;glass day 3";
        Edge.is(then, "", "nobody", -2, x -> x.wayAt(0, 0));
        Edge.is(then, "", "then b", 1, x -> x.wayAt(0, 1));
        Edge.is(then, "", "b could", 2, x -> x.couldRing());
    }

    /** "From NOW (who was TOLD, wires as NOW)": asked again behind each act. */
    private static void waysBehindActs() {
        NextBell x = Due.street(PANICS);
        Due.is("three", x.ways(), 3);
        x.day();
        Due.is("from day 1", x.ways(), 2);
        Due.is("from day 1, two rings", x.wayAt(1, 1), -2);
        x.pull(0);
        Due.is("without a's wire", x.ways(), 1);
        Due.is("without a's wire, for b", x.wayAt(0, 0), 1);
        Due.is("without a's wire, b could", x.couldRing(), 2);
        x.mend(0);
        Due.is("mended", x.couldRing(), 3);
        x.tell(0);
        Due.is("a told", x.ways(), 1);
        Due.is("a told, a could", x.couldRing(), 1);
        x.undo();
        Due.is("undone", x.ways(), 2);
        x.image();
        x.day();
        Due.is("from day 2, for nobody", x.couldRing(), 0);
        Due.is("from day 2, one ring", x.wayAt(0, 0), -2);
        x.back(0);
        Due.is("back", x.couldRing(), 3);
        Due.is("back, two", x.ways(), 2);
    }

    /** Promise 19: "-2 nobody. NONE: 1 (i, k, too)." */
    private static void wayAt() {
        int[] noWay = {-1, 2, 3, 1296, Edge.LEAST, Edge.MOST};
        for (int i : noWay) {
            Edge.no(EITHER, "", "wayAt " + i + " 0", 1, x -> x.wayAt(i, 0));
            Edge.no(EITHER, "", "wayAt " + i + " " + i, 1, x -> x.wayAt(i, i));
            Edge.no(null, "", "wayAt " + i + " 0, no street", 1, x -> x.wayAt(i, 0));
        }
        int[] noRing = {-1, 1, 2, 4, Edge.LEAST, Edge.MOST};
        for (int k : noRing) {
            Edge.no(EITHER, "", "wayAt 0 " + k, 1, x -> x.wayAt(0, k));
            Edge.no(CALM, "", "wayAt 0 " + k + ", no glass", 1, x -> x.wayAt(0, k));
        }
        Edge.no(CALM, "", "no glass", 1, x -> x.wayAt(0, 0));
        String four = CALM + ";glass day 0;glass day 1;glass day 2;glass day 30";
        Edge.is(four, "", "the fourth ring, for nobody", -2, x -> x.wayAt(0, 3));
        Edge.no(four, "", "no fifth", 1, x -> x.wayAt(0, 4));
        Edge.is(EITHER, "", "the last way", 1, x -> x.wayAt(1, 0));
        Edge.is(LATE + ";glass day 0", "pull0 pull1 pull2 pull3 pull4", "the sixth house", 5, x -> x.wayAt(0, 0));
    }

    /** Promise 20: "NONE: 1 (no STREET)."; "BEST: the fewest BURNT by day 60; of like ones the first" */
    private static void bestWay() {
        Edge.no(null, "", "bestWay", 1, x -> x.bestWay());
        Edge.is(CALM, "", "the only one", 0, x -> x.bestWay());
        Edge.is(EITHER, "", "the second", 1, x -> x.bestWay());
        Edge.is(PANICS, "", "of like ones the first", 0, x -> x.bestWay());
        Edge.is(EITHER, "pull1", "of those by wires now", 0, x -> x.bestWay());
        // Told, a burns on day 59, b on day 60; no other way than this one is asked, though it would be better.
        Edge.is(S + "house a timber day 60 by 1;house b timber calm;spark a b days 1;does a panic", "tell0", "by those told", 0,
                x -> x.bestWay());
        // c, which b's cut would save, burns on day 60, or on day 61.
        for (int days = 8; days <= 9; days++) {
            boolean counts = days == 8;
            String text = S + "house a timber day 53 by 1;house b timber day 52 by 1;house c timber calm;spark b c days " + days
                    + ";does a panic;does b cut;glass day 0";
            Edge.is(text, "", "c burns on day " + (52 + days), 52 + days, x -> x.burns(2));
            Edge.is(text, "", "either rings", 2, x -> x.ways());
            Edge.is(text, "", "burnt by the first", counts ? 3 : 2, x -> x.wayBurnt(0));
            Edge.is(text, "", "burnt by the second", 2, x -> x.wayBurnt(1));
            Edge.is(text, "", "best", counts ? 1 : 0, x -> x.bestWay());
        }
    }

    /** Promise 21: "NONE: 1."; "BURNT by day 60" */
    private static void wayBurnt() {
        for (int i : new int[] {-1, 2, 3, 1296, Edge.LEAST, Edge.MOST}) {
            Edge.no(EITHER, "", "wayBurnt " + i, 1, x -> x.wayBurnt(i));
            Edge.no(null, "", "wayBurnt " + i + ", no street", 1, x -> x.wayBurnt(i));
        }
        Edge.no(CALM, "", "wayBurnt 1", 1, x -> x.wayBurnt(1));
        Edge.is(CALM, "", "none is burnt", 0, x -> x.wayBurnt(0));
        Edge.is(EITHER, "", "wayBurnt 0", 3, x -> x.wayBurnt(0));
        Edge.is(EITHER, "", "wayBurnt 1", 2, x -> x.wayBurnt(1));
        Edge.is(S + "house a timber day 60 by 1;house b timber calm;house c timber calm;spark a b days 0;spark a c days 1",
                "", "day 60 counts, day 61 doesn't", 2, x -> x.wayBurnt(0));
        Edge.is(LATE, "day90", "by day 60 on day 90", 1, x -> x.wayBurnt(0));
        Edge.is(EITHER, "tell1", "by those told", 2, x -> x.wayBurnt(0));
    }

    /** Promise 22: "NONE: 1 (no STREET)." */
    private static void couldRing() {
        Edge.no(null, "", "couldRing", 1, x -> x.couldRing());
        Edge.is(CALM, "", "no glass", 0, x -> x.couldRing());
        Edge.is(CALM + ";glass day 5", "", "nobody", 0, x -> x.couldRing());
        Edge.is(EITHER, "", "either", 3, x -> x.couldRing());
        Edge.is(EITHER, "pull0", "b", 2, x -> x.couldRing());
        String two = S + "house a timber day 3 by 1;house b timber day 5 by 1;house c timber day 9 by 1;glass day 0;glass day 3";
        Edge.is(two, "", "one behind the other", 3, x -> x.couldRing());
        Edge.is(PANICS, "", "either, or one twice", 3, x -> x.couldRing());
        Edge.is(S + "house a timber day 9 by 1;glass day 0;glass day 1", "", "one twice", 1, x -> x.couldRing());
        Edge.is(LATE + ";glass day 30", "pull0 pull1 pull2 pull3 pull4", "the sixth", 32, x -> x.couldRing());
    }

    // ---- promises 23 and 24

    /** Promise 23: "SAFE for n days (0 .. 90), as bits; -2 it can't be. NONE: 1 (no STREET); 2." */
    private static void safe() {
        for (int n : NO_DAY) {
            Edge.no(EITHER, "", "safe " + n, 2, x -> x.safe(n));
            Edge.no(null, "", "safe " + n + ", no street", 1, x -> x.safe(n));
        }
        Edge.is(CALM, "", "nobody needs to be told", 0, x -> x.safe(90));
        Edge.is(CALM, "", "safe 0", 0, x -> x.safe(0));
        String douse = S + "house a timber day 9 by 1;house b timber day 12 by 1;house c timber calm;spark a c days 1;"
                + "does a douse;does b douse;does c cut";
        Edge.is(douse, "", "the day ahead", 0, x -> x.safe(8));
        Edge.is(douse, "", "on the day itself", 1, x -> x.safe(9));
        Edge.is(douse, "", "the day ahead of b", 1, x -> x.safe(11));
        Edge.is(douse, "", "both", 3, x -> x.safe(12));
        Edge.is(douse, "", "for 90 days", 3, x -> x.safe(90));
        Edge.is(douse, "tell0", "one was told", 2, x -> x.safe(90));
        Edge.is(douse, "tell0 tell1", "both were", 0, x -> x.safe(90));
        Edge.is(douse, "pull0 pull1", "pulled ones can be told", 3, x -> x.safe(90));
        Edge.is(EITHER, "", "it can't be", -2, x -> x.safe(9));
        Edge.is(EITHER, "", "for 8 days it is", 0, x -> x.safe(8));
        Edge.is(LATE, "", "for 59 days", 0, x -> x.safe(59));
        Edge.is(LATE, "", "for 60 it can't be", -2, x -> x.safe(60));
        Edge.is(LATE + ";does a douse", "", "for 90", 1, x -> x.safe(90));
        String all = S + "house a stone day 1 by 1;house b stone day 1 by 1;house c stone day 1 by 1;house d stone day 1 by 1;"
                + "house e stone day 1 by 1;house f stone day 1 by 1;does a douse;does b douse;does c douse;does d douse;"
                + "does e douse;does f douse";
        Edge.is(all, "", "all six", 63, x -> x.safe(1));
        NextBell x = Edge.at(all, "");
        x.safe(1);
        Due.is("nobody was told", x.size(9) + x.house(0, 4), 0);
    }

    /** "none of whom BURNS already, so that no other house than those that BURN NOW already does by day n" */
    private static void safeAlready() {
        String text = S + "house a timber day 3 by 1;house b timber day 9 by 1;house c timber calm;spark a c days 4;"
                + "does a douse;does b douse";
        Edge.is(text, "day2", "a can still be told", 3, x -> x.safe(90));
        Edge.is(text, "day3", "a burns now, c will", -2, x -> x.safe(90));
        Edge.is(text, "day3", "up to c's day", 0, x -> x.safe(6));
        Edge.is(text, "day3", "on c's day", -2, x -> x.safe(7));
        Edge.is(text, "day7", "c burns now, b is to be told", 2, x -> x.safe(90));
        Edge.is(text, "day8", "still", 2, x -> x.safe(9));
        Edge.is(text, "day9", "all burn", 0, x -> x.safe(90));
        Edge.is(text, "day90", "all burnt", 0, x -> x.safe(90));
        Edge.is(text, "day8", "days that are over", 0, x -> x.safe(0));
        Edge.is(S + "house a timber day 0 by 1;does a douse", "", "burns on day 0", 0, x -> x.safe(90));
    }

    /** Promise 24: "as told, by which, cut alone, fewest BURN ever, the first such; -2 by none fewer. NONE: 1 (no STREET)." */
    private static void bestCut() {
        Edge.no(null, "", "bestCut", 1, x -> x.bestCut());
        Edge.is(S + "house a timber day 1 by 1", "", "no sparks", -2, x -> x.bestCut());
        Edge.is(CALM, "", "nothing burns", -2, x -> x.bestCut());
        Edge.is(LATE, "", "the first", 0, x -> x.bestCut());
        String both = S + "house a timber day 1 by 1;house b timber calm;house c timber day 1 by 1;spark a b days 1;"
                + "spark c b days 1;does a cut;does c cut";
        Edge.is(both, "", "each alone is none fewer", -2, x -> x.bestCut());
        Edge.is(both, "tell0", "the one left", 1, x -> x.bestCut());
        Edge.is(both, "tell0 tell2", "all are cut", -2, x -> x.bestCut());
        String own = S + "house a timber day 1 by 1;house b timber day 9 by 1;spark a b days 1";
        Edge.is(own, "", "it burns anyhow", -2, x -> x.bestCut());
        Edge.is(own + ";does b douse", "", "it isn't doused yet", -2, x -> x.bestCut());
        Edge.is(own + ";does b douse", "tell1", "it is", 0, x -> x.bestCut());
        Edge.is(own, "", "what was asked ahead is no matter", -2, x -> 0 * x.quiet(0, false) * x.fits() + x.bestCut());
        String like = S + "house a timber day 1 by 1;house b timber calm;house c timber calm;spark a c days 1;spark a b days 1";
        Edge.is(like, "", "of like ones the first told", 0, x -> x.bestCut());
        String ninth = S + "house a timber day 60 by 1;house b timber calm;house c timber calm;house d timber calm;"
                + "house e timber calm;house f timber calm;spark f a days 1;spark e a days 1;spark d a days 1;"
                + "spark c a days 1;spark b a days 1;spark c b days 1;spark b c days 9;spark d e days 1;spark a b days 9";
        Edge.is(ninth, "", "the ninth", 8, x -> x.bestCut());
        Edge.is(LATE + ";does a cut;does b cut", "tell0", "nothing more to cut", -2, x -> x.bestCut());
        Edge.is(S + "house a timber day 60 by 1;house b stone calm;spark a b days 0", "", "stone", -2, x -> x.bestCut());
    }

    // ---- promises 25 to 30

    private static String unknown(String rest) {
        return S + "house a timber day 5 by 1;house b timber calm;" + rest;
    }

    /** Promise 25: "NONE: 1 (no STREET)."; "days (0 .. 9, or none) of all unknown houses" */
    private static void fits() {
        Edge.no(null, "", "fits", 1, x -> x.fits());
        Edge.is(CALM, "", "nothing unknown: one of no days", 1, x -> x.fits());
        Edge.is(CALM + ";rung day 0 a", "", "nothing unknown, not as rung", 0, x -> x.fits());
        Edge.is(unknown("rung day 4 a"), "", "nothing unknown, as rung", 1, x -> x.fits());
        Edge.is(unknown("unknown a"), "", "nothing rung", 11, x -> x.fits());
        Edge.is(unknown("unknown a;unknown b"), "", "two, nothing rung", 121, x -> x.fits());
        Edge.is(unknown("unknown a;rung day 8 a"), "", "day 9 alone", 1, x -> x.fits());
        Edge.is(unknown("unknown a;rung day 9 a"), "", "later than day 9", 0, x -> x.fits());
        Edge.is(unknown("unknown a;rung day 0 nobody"), "", "day 0, or none", 2, x -> x.fits());
        Edge.is(unknown("unknown a;rung day 0 a;rung day 9 nobody"), "", "days 1 to 9", 9, x -> x.fits());
        Edge.is(unknown("unknown a;rung day 0 a;rung day 0 nobody"), "", "both can't be", 0, x -> x.fits());
        // "from the beginning, nobody TOLD, wires as told"
        String text = unknown("unknown a;does a douse;pulled b;rung day 3 a");
        Edge.is(text, "", "days 4 to 9", 6, x -> x.fits());
        Edge.is(text, "tell0 pull0 mend1 day2", "from the beginning", 6, x -> x.fits());
        Edge.is(unknown("unknown a;pulled a;rung day 3 a"), "mend0", "wires as told", 0, x -> x.fits());
        // Those that are known burn as told, nobody TOLD: b on day 5 all the same.
        for (String doing : new String[] {"douse", "panic", "cut"}) {
            String known = S + "house b timber day 5 by 1;house a timber calm;house c timber day 5 by 1;unknown a;pulled c;does b "
                    + doing + ";rung day 4 b";
            Edge.is(known, "", "a on day 0 to 4, or not ahead of b: " + doing, 11, x -> x.fits());
            Edge.is(known, "tell0", "b was told: " + doing, 11, x -> x.fits());
            Edge.is(known, "", "b is next on day 0: " + doing, 7, x -> x.nextBy(0, 0));
            Edge.is(known, "", "asked behind others: " + doing, 7, x -> 0 * x.quiet(0, false) * x.bestCut() + x.nextBy(0, 0));
        }
        String second = S + "house a timber calm;house b timber day 5 by 1;house c timber day 5 by 1;unknown a";
        Edge.is(second, "", "b is known: next on day 0", 6, x -> x.nextBy(1, 0));
        Edge.is(second + ";pulled b", "", "c is known: next on day 0", 6, x -> x.nextBy(2, 0));
        // The day told, or that it is calm, doesn't matter for an unknown one; sparks do.
        Edge.is(S + "house a timber day 60 by 1;unknown a;rung day 8 a", "", "told day 60", 1, x -> x.fits());
        Edge.is(S + "house a timber calm;house b timber calm;spark a b days 9;unknown a;rung day 16 b", "", "by sparks", 2,
                x -> x.fits());
    }

    /** Promise 26: "(the first house counts most); -2 none. NONE: 1 (i, k, too)."; "(none behind all days)" */
    private static void fitAt() {
        String text = unknown("unknown a;unknown b");
        for (int i : new int[] {-1, 121, 122, Edge.LEAST, Edge.MOST}) {
            Edge.no(text, "", "fitAt " + i + " 0", 1, x -> x.fitAt(i, 0));
            Edge.no(null, "", "fitAt " + i + " 0, no street", 1, x -> x.fitAt(i, 0));
        }
        for (int k : new int[] {-1, 2, 3, Edge.LEAST, Edge.MOST}) {
            Edge.no(text, "", "fitAt 0 " + k, 1, x -> x.fitAt(0, k));
        }
        for (int i = 0; i < 121; i++) {
            int fit = i;
            int first = i / 11;
            int second = i % 11;
            Edge.is(text, "", "first by " + i, first == 10 ? -2 : first, x -> x.fitAt(fit, 0));
            Edge.is(text, "", "second by " + i, second == 10 ? -2 : second, x -> x.fitAt(fit, 1));
        }
        String one = unknown("unknown a");
        for (int i = 0; i < 11; i++) {
            int fit = i;
            Edge.is(one, "", "the only one by " + i, i == 10 ? -2 : i, x -> x.fitAt(fit, 0));
        }
        Edge.no(one, "", "no second unknown", 1, x -> x.fitAt(0, 1));
        Edge.no(one, "", "no twelfth fit", 1, x -> x.fitAt(11, 0));
        Edge.no(CALM, "", "nothing unknown", 1, x -> x.fitAt(0, 0));
        Edge.no(unknown("unknown a;rung day 9 a"), "", "no fits", 1, x -> x.fitAt(0, 0));
        Edge.is(unknown("unknown a;rung day 0 nobody"), "", "the first fit", 0, x -> x.fitAt(0, 0));
        Edge.is(unknown("unknown a;rung day 0 nobody"), "", "none is behind it", -2, x -> x.fitAt(1, 0));
        Edge.no(unknown("unknown a;rung day 0 nobody"), "", "no third fit", 1, x -> x.fitAt(2, 0));
    }

    /** Promise 27: "a day (0 .. 90) from the beginning. NONE: 1; 2." */
    private static void nextBy() {
        String text = unknown("unknown a");
        for (int h : NO_HOUSE) {
            Edge.no(text, "", "nextBy " + h + " 0", 1, x -> x.nextBy(h, 0));
            Edge.no(text, "", "nextBy " + h + " 91", 1, x -> x.nextBy(h, 91));
        }
        for (int n : NO_DAY) {
            Edge.no(text, "", "nextBy 0 " + n, 2, x -> x.nextBy(0, n));
            Edge.no(null, "", "nextBy 0 " + n + ", no street", 1, x -> x.nextBy(0, n));
        }
        for (int day = 0; day <= 10; day++) {
            int n = day;
            Edge.is(text, "", "a on day " + day, Math.max(0, 9 - day), x -> x.nextBy(0, n));
            Edge.is(text, "tell0 pull0 day9", "a on day " + day + ", from the beginning", Math.max(0, 9 - day),
                    x -> x.nextBy(0, n));
        }
        String two = unknown("unknown a;unknown b");
        Edge.is(two, "", "a of 121 on day 0", 9 + 8 + 7 + 6 + 5 + 4 + 3 + 2 + 1 + 2 * 9, x -> x.nextBy(0, 0));
        Edge.is(two, "", "b of 121 on day 0", 8 + 7 + 6 + 5 + 4 + 3 + 2 + 1 + 2 * 9, x -> x.nextBy(1, 0));
        Edge.is(two, "", "none of 121 on day 9", 0, x -> x.nextBy(0, 9) + x.nextBy(1, 9));
        Edge.is(text, "", "on day 90", 0, x -> x.nextBy(0, 90));
        Edge.is(text, "", "b never", 0, x -> x.nextBy(1, 0));
        Edge.is(unknown("unknown a;rung day 9 a"), "", "no fits", 0, x -> x.nextBy(0, 0));
        Edge.is(LATE, "", "nothing unknown, day 90", 1, x -> x.nextBy(4, 90));
        Edge.is(LATE, "", "nothing unknown, day 89", 1, x -> x.nextBy(3, 89));
    }

    /** Promises 28 and 29: "-2 no FITS", "likewise. NONE: 1 (no STREET)."; "the day (0 .. 20) .., the first such" */
    private static void tries() {
        Edge.no(null, "", "tryDay", 1, x -> x.tryDay());
        Edge.no(null, "", "tryLeaves", 1, x -> x.tryLeaves());
        Edge.is(unknown("unknown a;rung day 9 a"), "", "no fits: tryDay", -2, x -> x.tryDay());
        Edge.is(unknown("unknown a;rung day 9 a"), "", "no fits: tryLeaves", -2, x -> x.tryLeaves());
        Edge.is(CALM, "", "one fit: the first day", 0, x -> x.tryDay());
        Edge.is(CALM, "", "one fit is left", 1, x -> x.tryLeaves());
        Edge.is(unknown("unknown a;pulled a"), "", "all alike: the first day", 0, x -> x.tryDay());
        Edge.is(unknown("unknown a;pulled a"), "", "all are left", 11, x -> x.tryLeaves());
        Edge.is(unknown("unknown a"), "", "halves: the first day", 3, x -> x.tryDay());
        Edge.is(unknown("unknown a"), "", "six of eleven", 6, x -> x.tryLeaves());
        // b burns 19 days behind a, whose wire is pulled: the later the day, the better, up to day 20.
        String late = S + "house a timber calm;house c brick calm;house b timber calm;spark a c days 9;spark c b days 9;"
                + "unknown a;pulled a;pulled c";
        Edge.is(late, "", "day 20 is the last", 20, x -> x.tryDay());
        Edge.is(late, "", "eight are left", 8, x -> x.tryLeaves());
        Edge.is(late, "mend0 mend1 tell0 day5", "from the beginning", 20, x -> x.tryDay());
    }

    /** Promise 30: "The first rung, as told, that isn't so by days as told; -2. NONE: 1 (no STREET)." */
    private static void judge() {
        Edge.no(null, "", "judge", 1, x -> x.judge());
        Edge.is(CALM, "", "none rung", -2, x -> x.judge());
        Edge.is(unknown("rung day 4 a;rung day 5 nobody"), "", "all so", -2, x -> x.judge());
        Edge.is(unknown("rung day 5 a"), "", "not later than day 5", 0, x -> x.judge());
        Edge.is(unknown("rung day 4 nobody"), "", "somebody was", 0, x -> x.judge());
        Edge.is(unknown("rung day 4 a;rung day 4 a;rung day 4 a;rung day 4 b"), "", "the fourth", 3, x -> x.judge());
        Edge.is(unknown("rung day 4 a;rung day 4 b;rung day 4 b"), "", "the first that isn't", 1, x -> x.judge());
        Edge.is(unknown("unknown a;rung day 4 a;rung day 5 a"), "", "unknown as told", 1, x -> x.judge());
        Edge.is(unknown("does a douse;rung day 4 a"), "tell0 pull0 day9", "from the beginning", -2, x -> x.judge());
    }

    // ---- promises 31 to 33

    /** Promise 31: "-100: 1 (no STREET)."; "who rings alone has 4 less fright, the other one 3; both: 1 less fright each" */
    private static void rings() {
        for (int pair = 0; pair < 8; pair++) {
            boolean one = (pair & 4) != 0;
            boolean other = (pair & 2) != 0;
            boolean of = (pair & 1) != 0;
            Edge.no(null, "", "rings " + pair, 1, -100, x -> x.rings(one, other, of));
            for (int fright = 0; fright <= 9; fright++) {
                int alone = 4 - fright;
                int due = !one && !other ? 0 : one && other ? 1 - fright : one != of ? alone : 3;
                Edge.is("street fright " + fright + ";house a stone calm", "", "rings " + pair + " by " + fright, due,
                        x -> x.rings(one, other, of));
            }
        }
    }

    /** Promises 32 and 33: "-2. NONE: 1 (no STREET)."; "a pair by which neither could have more alone" */
    private static void rests() {
        Edge.no(null, "", "rests", 1, x -> x.rests());
        Edge.no(null, "", "rest", 1, x -> x.rest());
        // Below 4 it's worth to ring alone; by 4 it's all the same; above it nobody does. So there is always a rest.
        int[] rests = {2, 2, 2, 2, 3, 1, 1, 1, 1, 1};
        int[] rest = {1, 1, 1, 1, 0, 0, 0, 0, 0, 0};
        for (int fright = 0; fright <= 9; fright++) {
            String text = "street fright " + fright + ";house a stone calm";
            Edge.is(text, "", "rests by " + fright, rests[fright], x -> x.rests());
            Edge.is(text, "", "rest by " + fright, rest[fright], x -> x.rest());
        }
    }

    // ---- promises 34 to 36

    private static void part(String text, String acts, String what, long upper, long lower, Part part) {
        Edge.is(text, acts, what + ", upper", upper, x -> part.of(x, false));
        Edge.is(text, acts, what + ", lower", lower, x -> part.of(x, true));
    }

    private interface Part {
        long of(NextBell x, boolean lower);
    }

    /** Promise 34: "n days (0 .. 90) by CHANCE, .. in lowest terms (0 by 1). -1: 1; 2."; "by what was told (by), else never" */
    private static void odds() {
        String text = S + "house a timber day 4 by 30;house b timber calm;spark a b days 1;does a douse";
        for (boolean lower : new boolean[] {false, true}) {
            for (int h : NO_HOUSE) {
                Edge.no(text, "", "odds " + h + " 0", 1, x -> x.odds(h, 0, lower));
                Edge.no(text, "", "odds " + h + " 91", 1, x -> x.odds(h, 91, lower));
            }
            for (int n : NO_DAY) {
                Edge.no(text, "", "odds 0 " + n, 2, x -> x.odds(0, n, lower));
                Edge.no(null, "", "odds 0 " + n + ", no street", 1, x -> x.odds(0, n, lower));
            }
        }
        part(text, "", "day 0", 0, 1, (x, lower) -> x.odds(0, 0, lower));
        part(text, "", "the day ahead", 0, 1, (x, lower) -> x.odds(0, 3, lower));
        part(text, "", "the day itself", 3, 10, (x, lower) -> x.odds(0, 4, lower));
        part(text, "", "b, the day ahead", 0, 1, (x, lower) -> x.odds(1, 4, lower));
        part(text, "", "b, the day itself", 3, 10, (x, lower) -> x.odds(1, 5, lower));
        part(text, "", "day 90", 3, 10, (x, lower) -> x.odds(1, 90, lower));
        part(text, "tell0", "no cause any more", 0, 1, (x, lower) -> x.odds(1, 90, lower));
        part(text, "tell0 undo", "again one", 3, 10, (x, lower) -> x.odds(1, 90, lower));
        part(CALM, "", "never", 0, 1, (x, lower) -> x.odds(0, 90, lower));
        part(S + "house a timber day 4 by 0", "", "by 0", 0, 1, (x, lower) -> x.odds(0, 90, lower));
        part(S + "house a timber day 4 by 100", "", "by 100", 1, 1, (x, lower) -> x.odds(0, 4, lower));
        part(S + "house a timber day 4 by 1", "", "by 1", 1, 100, (x, lower) -> x.odds(0, 4, lower));
        part(S + "house a timber day 4 by 99", "", "by 99", 99, 100, (x, lower) -> x.odds(0, 4, lower));
        part(S + "house a timber day 0 by 50", "", "on day 0", 1, 2, (x, lower) -> x.odds(0, 0, lower));
        part(LATE, "", "on day 90", 1, 1, (x, lower) -> x.odds(3, 90, lower));
        part(LATE, "", "on day 89", 0, 1, (x, lower) -> x.odds(3, 89, lower));
        part(LATE, "", "behind day 90", 0, 1, (x, lower) -> x.odds(4, 90, lower));
    }

    /** Promises 35 and 36: "likewise. -1: 1 (no STREET); 2." */
    private static void quietAndMean() {
        String text = S + "house a timber day 4 by 30;house b timber day 6 by 100;spark a b days 1";
        for (boolean lower : new boolean[] {false, true}) {
            for (int n : NO_DAY) {
                Edge.no(text, "", "quiet " + n, 2, x -> x.quiet(n, lower));
                Edge.no(text, "", "mean " + n, 2, x -> x.mean(n, lower));
                Edge.no(null, "", "quiet " + n + ", no street", 1, x -> x.quiet(n, lower));
                Edge.no(null, "", "mean " + n + ", no street", 1, x -> x.mean(n, lower));
            }
        }
        long[][] quiet = {{3, 1, 1}, {4, 7, 10}, {5, 7, 10}, {6, 0, 1}, {90, 0, 1}, {0, 1, 1}};
        long[][] mean = {{3, 0, 1}, {4, 3, 10}, {5, 3, 5}, {6, 13, 10}, {90, 13, 10}, {0, 0, 1}};
        for (int i = 0; i < quiet.length; i++) {
            int n = (int) quiet[i][0];
            part(text, "", "quiet " + n, quiet[i][1], quiet[i][2], (x, lower) -> x.quiet(n, lower));
            part(text, "", "mean " + n, mean[i][1], mean[i][2], (x, lower) -> x.mean(n, lower));
        }
        part(CALM, "", "always quiet", 1, 1, (x, lower) -> x.quiet(90, lower));
        part(CALM, "", "none on the mean", 0, 1, (x, lower) -> x.mean(90, lower));
        part(LATE, "", "mean on day 90", 4, 1, (x, lower) -> x.mean(90, lower));
        part(LATE, "", "mean on day 89", 3, 1, (x, lower) -> x.mean(89, lower));
        part(LATE, "", "quiet on day 59", 1, 1, (x, lower) -> x.quiet(59, lower));
        part(LATE, "", "quiet on day 60", 0, 1, (x, lower) -> x.quiet(60, lower));
        String six = S + "house a stone day 0 by 100;house b stone day 0 by 100;house c stone day 0 by 100;"
                + "house d stone day 0 by 100;house e stone day 0 by 100;house f stone day 0 by 100";
        part(six, "", "all six", 6, 1, (x, lower) -> x.mean(0, lower));
    }

    /** "in lowest terms": the largest numbers there can be, a hundred to the sixth below. */
    private static void lowestTerms() {
        String six = S + "house a stone day 1 by 1;house b stone day 1 by 1;house c stone day 1 by 1;"
                + "house d stone day 1 by 1;house e stone day 1 by 1;house f timber day 1 by 1;spark a f days 0;"
                + "spark b f days 0;spark c f days 0;spark d f days 0;spark e f days 0";
        long whole = 1000000000000L;
        long none = 99L * 99 * 99 * 99 * 99 * 99;
        part(six, "", "quiet of six", none, whole, (x, lower) -> x.quiet(1, lower));
        part(six, "", "one by all", whole - none, whole, (x, lower) -> x.odds(5, 1, lower));
        part(six, "", "one of six", 1, 100, (x, lower) -> x.odds(0, 1, lower));
        // Five hundredths, and the one that all of them light.
        part(six, "", "mean of six", whole - none + whole / 20, whole, (x, lower) -> x.mean(1, lower));
    }

    // ---- promises 37 and 38

    /** Promise 37: "n YEARS (0 .. 60) by a SEED (0 .. 65,536) a house is BURNT in by day 90. NONE: 1; 2." */
    private static void years() {
        String text = S + "house a timber day 1 by 50;house b timber calm;spark a b days 1;does a douse";
        for (int h : NO_HOUSE) {
            Edge.no(text, "", "years " + h + " 0 0", 1, x -> x.years(h, 0, 0));
            Edge.no(text, "", "years " + h + " -1 61", 1, x -> x.years(h, -1, 61));
        }
        for (int seed : new int[] {-1, 65537, Edge.LEAST, Edge.MOST}) {
            Edge.no(text, "", "years 0 " + seed + " 1", 2, x -> x.years(0, seed, 1));
            Edge.no(text, "", "years 0 " + seed + " 0", 2, x -> x.years(0, seed, 0));
            Edge.no(null, "", "years 0 " + seed + " 1, no street", 1, x -> x.years(0, seed, 1));
        }
        for (int n : new int[] {-1, 61, Edge.LEAST, Edge.MOST}) {
            Edge.no(text, "", "years 0 0 " + n, 2, x -> x.years(0, 0, n));
            Edge.no(null, "", "years 0 0 " + n + ", no street", 1, x -> x.years(0, 0, n));
        }
        Edge.is(text, "", "no years", 0, x -> x.years(0, 65536, 0));
        Edge.is(text, "tell0", "no cause", 0, x -> x.years(1, 65536, 60));
        Edge.is(LATE, "", "60 years, by day 90", 60, x -> x.years(3, 0, 60));
        Edge.is(LATE, "", "behind day 90", 0, x -> x.years(4, 0, 60));
        Edge.is(CALM, "", "nobody draws", 0, x -> x.years(0, 0, 60));
        // A call leaves no seed to the next.
        Due.is("the same again", sameAgain(text), true);
    }

    private static boolean sameAgain(String text) {
        NextBell x = Due.street(text);
        int first = x.years(0, 7, 13);
        x.worstYear(9, 60);
        return first == x.years(0, 7, 13);
    }

    /** "a DRAW mod 100: below by it comes (SEED becomes (75 times SEED and 74) mod 65,537)" */
    private static void draws() {
        // From seed 0 the first draw is 74; 65,536 stays itself, of which 36 is left.
        for (int by = 0; by <= 100; by++) {
            String text = S + "house a timber day 1 by " + by + ";house b timber calm;spark a b days 1";
            Edge.is(text, "", "seed 0, by " + by, by > 74 ? 1 : 0, x -> x.years(0, 0, 1));
            Edge.is(text, "", "seed 65536, by " + by, by > 36 ? 60 : 0, x -> x.years(1, 65536, 60));
        }
        // Seeds whose next one is 65,536 at most, and the first that wraps round: 873 times 75 and 74 is 65,549.
        Edge.is(S + "house a timber day 1 by 75", "", "872 becomes 65474", 1, x -> x.years(0, 872, 1));
        Edge.is(S + "house a timber day 1 by 74", "", "872 becomes 65474, by 74", 0, x -> x.years(0, 872, 1));
        Edge.is(S + "house a timber day 1 by 13", "", "873 becomes 12", 1, x -> x.years(0, 873, 1));
        Edge.is(S + "house a timber day 1 by 12", "", "873 becomes 12, by 12", 0, x -> x.years(0, 873, 1));
        // Seed 45,438 becomes 0: by 1 comes, by 0 doesn't.
        Edge.is(S + "house a timber day 1 by 1", "", "0 is below 1", 1, x -> x.years(0, 45438, 1));
        Edge.is(S + "house a timber day 1 by 0", "", "0 isn't below 0", 0, x -> x.years(0, 45438, 1));
        // By numbers, and a calm one, or one that was doused, draws nothing: 74, then 24 (5,624).
        String order = S + "house a timber calm;house b timber day 1 by 75;house c timber day 1 by 25;does b douse";
        Edge.is(order, "", "b has 74", 1, x -> x.years(1, 0, 1));
        Edge.is(order, "", "c has 24", 1, x -> x.years(2, 0, 1));
        Edge.is(order, "tell1", "b is doused, c has 74", 0, x -> x.years(2, 0, 1));
        Edge.is(order, "tell1", "c has 24 in the second year", 1, x -> x.years(2, 0, 2));
        Edge.is(order, "tell2 pull2 day30", "no other act matters", 1, x -> x.years(2, 0, 1));
        // All years of 60, drawn here once more.
        String text = S + "house a timber day 1 by 50;house b stone day 1 by 20";
        Edge.is(text, "", "60 years of b", drawn(12345, 20), x -> x.years(1, 12345, 60));
    }

    private static int drawn(long seed, int by) {
        int count = 0;
        long s = seed;
        for (int year = 0; year < 60; year++) {
            s = (75 * s + 74) % 65537;
            s = (75 * s + 74) % 65537;
            if (s % 100 < by) {
                count++;
            }
        }
        return count;
    }

    /** Promise 38: "The most houses BURNT in one of them. NONE: 1 (no STREET); 2." */
    private static void worstYear() {
        String text = S + "house a timber day 1 by 50;house b timber calm;spark a b days 1;does a douse";
        for (int seed : new int[] {-1, 65537, Edge.LEAST, Edge.MOST}) {
            Edge.no(text, "", "worstYear " + seed + " 1", 2, x -> x.worstYear(seed, 1));
            Edge.no(text, "", "worstYear " + seed + " 0", 2, x -> x.worstYear(seed, 0));
            Edge.no(null, "", "worstYear " + seed + " 1, no street", 1, x -> x.worstYear(seed, 1));
        }
        for (int n : new int[] {-1, 61, Edge.LEAST, Edge.MOST}) {
            Edge.no(text, "", "worstYear 0 " + n, 2, x -> x.worstYear(0, n));
            Edge.no(null, "", "worstYear 0 " + n + ", no street", 1, x -> x.worstYear(0, n));
        }
        Edge.is(text, "", "no years", 0, x -> x.worstYear(65536, 0));
        Edge.is(text, "", "36 comes", 2, x -> x.worstYear(65536, 60));
        Edge.is(text, "", "74 doesn't", 0, x -> x.worstYear(0, 1));
        Edge.is(text, "", "24 does", 2, x -> x.worstYear(0, 2));
        Edge.is(text, "tell0", "no cause", 0, x -> x.worstYear(65536, 60));
        Edge.is(CALM, "", "nobody draws", 0, x -> x.worstYear(0, 60));
        Edge.is(LATE, "", "by day 90", 4, x -> x.worstYear(0, 1));
        // The sixtieth year is the worst: a draw below 1 that comes first then.
        int seed = firstBelowIn(60);
        Edge.is(S + "house a timber day 1 by 1", "", "the sixtieth", 1, x -> x.worstYear(seed, 60));
        Edge.is(S + "house a timber day 1 by 1", "", "up to the 59th", 0, x -> x.worstYear(seed, 59));
        Edge.is(S + "house a timber day 1 by 1", "", "years: the sixtieth", 1, x -> x.years(0, seed, 60));
        Edge.is(S + "house a timber day 1 by 1", "", "years: up to the 59th", 0, x -> x.years(0, seed, 59));
    }

    /** A seed whose n-th draw is the first that ends in 00. */
    private static int firstBelowIn(int n) {
        for (int seed = 0; seed < 65537; seed++) {
            long s = seed;
            int draws = 0;
            do {
                s = (75 * s + 74) % 65537;
                draws++;
            } while (s % 100 != 0 && draws <= n);
            if (draws == n && s % 100 == 0) {
                return seed;
            }
        }
        throw new IllegalStateException("no such seed");
    }
}
