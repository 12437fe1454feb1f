import java.util.List;

/** The boundary cases of Terms III (ACTS, UNDO, IMAGES) and IV (TROUBLE) and of promises 39 to 48. */
public final class EdgeActsTest {
    private static final String S = "street fright 0;";
    /** They burn on days 5, 8, 9 and 7. */
    private static final String ROW = S + "house a timber day 5 by 50;house b brick calm;"
            + "house c thatch day 9 by 100;house d stone day 7 by 0;spark a b days 2;spark b c days 3;spark c d days 1;"
            + "does a cut;does b douse;does c panic;pulled d;glass day 0;glass day 6;unknown c;rung day 0 a;rung day 5 c";
    /** They burn on days 60, 70, .. 110. */
    private static final String LATE = S + "house a timber day 60 by 100;house b brick calm;house c brick calm;"
            + "house d brick calm;house e brick calm;house f brick calm;spark a b days 9;spark b c days 9;"
            + "spark c d days 9;spark d e days 9;spark e f days 9";
    private static final int[] NO_HOUSE = {-1, 4, 5, 6, 31, 32, 64, Edge.LEAST, Edge.MOST};

    private EdgeActsTest() {
    }

    public static void main(String[] args) {
        tell();
        pull();
        mend();
        day();
        undo();
        undoKept();
        undoOthers();
        image();
        back();
        backThenActs();
        led();
        size();
        sizeLeavesTrouble();
        troubles();
        troubleGone();
        manyCalls();
        Due.end("EdgeActsTest");
    }

    /** Promise 39: "-2 never. NONE: 1; 5 (it was TOLD, it BURNS NOW or did)." */
    private static void tell() {
        for (int h : NO_HOUSE) {
            Edge.no(ROW, "", "tell " + h, 1, x -> x.tell(h));
        }
        for (int h = 0; h < 4; h++) {
            int house = h;
            Edge.no(ROW, "tell" + h, "tell " + h + " again", 5, x -> x.tell(house));
            Edge.no(ROW, "tell" + h + " day1", "tell " + h + " on another day", 5, x -> x.tell(house));
            Edge.no(ROW, "day90", "tell " + h + " on day 90", 5, x -> x.tell(house));
        }
        int[] burns = {5, 8, 9, 7};
        int[] told = {5, 8, 8, 7};
        for (int h = 0; h < 4; h++) {
            int house = h;
            Edge.is(ROW, "", "tell " + h, told[h], x -> x.tell(house));
            Edge.is(ROW, "day" + (burns[h] - 1), "tell " + h + " the day ahead", told[h], x -> x.tell(house));
            Edge.no(ROW, "day" + burns[h], "tell " + h + " on its day", 5, x -> x.tell(house));
            Edge.no(ROW, "day" + (burns[h] + 1), "tell " + h + " the day behind", 5, x -> x.tell(house));
        }
        Edge.is(ROW, "tell0", "never", -2, x -> x.tell(1));
        Edge.is(ROW, "tell2 undo", "told and undone", 8, x -> x.tell(2));
        Edge.is(ROW, "image tell2 back0", "told ahead of the image", 8, x -> x.tell(2));
        Edge.is(ROW, "", "a pulled one", 7, x -> x.tell(3));
        Edge.no(S + "house a timber day 0 by 0", "", "on day 0", 5, x -> x.tell(0));
        Edge.is(LATE, "day90", "behind day 90", 110, x -> x.tell(5));
        // Told by panic it burns at once, and can't be told again.
        String panic = S + "house a timber day 4 by 1;house b timber calm;spark a b days 0;does a panic";
        Edge.is(panic, "day3", "at once", 3, x -> x.tell(0));
        Edge.no(panic, "day3 tell0", "again", 5, x -> x.tell(0));
        Edge.no(panic, "day3 tell0", "b burns with it", 5, x -> x.tell(1));
    }

    /** Promise 40: "true; false: 1; 5 (it is pulled)." */
    private static void pull() {
        for (int h : NO_HOUSE) {
            Edge.no(ROW, "", "pull " + h, 1, 0, x -> x.pull(h) ? 1 : 0);
        }
        Edge.no(ROW, "", "pulled as told", 5, 0, x -> x.pull(3) ? 1 : 0);
        Edge.no(ROW, "pull0", "pulled", 5, 0, x -> x.pull(0) ? 1 : 0);
        Edge.is(ROW, "", "pull 0", 1, x -> x.pull(0) ? 1 : 0);
        Edge.is(ROW, "mend3", "pulled once more", 1, x -> x.pull(3) ? 1 : 0);
        Edge.is(ROW, "pull0 undo", "pulled, undone", 1, x -> x.pull(0) ? 1 : 0);
        Edge.is(ROW, "day90", "of one that burnt", 1, x -> x.pull(0) ? 1 : 0);
        Edge.is(LATE, "pull0 pull1 pull2 pull3 pull4", "the sixth", 1, x -> x.pull(5) ? 1 : 0);
        Edge.is(ROW, "pull1", "pulled now", 1, x -> x.house(1, 5));
        Edge.is(ROW, "pull1", "the others aren't", 0, x -> x.house(0, 5) + x.house(2, 5));
    }

    /** Promise 41: "true; false: 1; 5 (it isn't pulled)." */
    private static void mend() {
        for (int h : NO_HOUSE) {
            Edge.no(ROW, "", "mend " + h, 1, 0, x -> x.mend(h) ? 1 : 0);
        }
        Edge.no(ROW, "", "mend 0", 5, 0, x -> x.mend(0) ? 1 : 0);
        Edge.no(ROW, "mend3", "mended", 5, 0, x -> x.mend(3) ? 1 : 0);
        Edge.is(ROW, "", "mend 3", 1, x -> x.mend(3) ? 1 : 0);
        Edge.is(ROW, "pull0", "mend one pulled", 1, x -> x.mend(0) ? 1 : 0);
        Edge.is(ROW, "mend3 undo", "mended, undone", 1, x -> x.mend(3) ? 1 : 0);
        Edge.is(ROW, "pull0 mend3", "mended now", 0, x -> x.house(3, 5));
        Edge.is(ROW, "pull0 mend3", "the other isn't", 1, x -> x.house(0, 5));
        Edge.is(ROW, "mend3", "as told", 1, x -> x.size(4) + x.house(3, 5));
    }

    /** Promise 42: "NONE: 1 (no STREET); 3 (day 90)." */
    private static void day() {
        Edge.no(null, "", "day", 1, x -> x.day());
        Edge.no(ROW, "day90", "day 91", 3, x -> x.day());
        Edge.is(ROW, "day89", "day 90", 0, x -> x.day());
        Edge.is(LATE, "day89", "d burns on day 90", 8, x -> x.day());
        Edge.is(ROW, "day90 undo", "day 90 once more", 0, x -> x.day());
        int[] due = {0, 0, 0, 0, 1, 0, 8, 2, 4, 0};
        for (int n = 0; n < due.length; n++) {
            Edge.is(ROW, n == 0 ? "" : "day" + n, "day " + (n + 1), due[n], x -> x.day());
        }
        // Two on one day, those that burnt on day 0 no more.
        String two = S + "house a timber day 0 by 1;house b timber day 1 by 1;house c timber day 2 by 1;spark a c days 1";
        Edge.is(two, "", "two on day 1", 6, x -> x.day());
        Edge.is(two, "day1", "none on day 2", 0, x -> x.day());
        Edge.is(ROW, "tell2 day7", "by those told: b and c", 6, x -> x.day());
    }

    /** Promise 43: "true; false: 6." */
    private static void undo() {
        Edge.no(ROW, "", "nothing to undo", 6, 0, x -> x.undo() ? 1 : 0);
        Edge.no(ROW, "day1 undo", "no more to undo", 6, 0, x -> x.undo() ? 1 : 0);
        Edge.no(ROW, "image", "an image is no act", 6, 0, x -> x.undo() ? 1 : 0);
        String[] acts = {"tell0", "tell2", "pull0", "mend3", "day1", "day90"};
        for (String act : acts) {
            Edge.is(ROW, act, "undo " + act, 1, x -> x.undo() ? 1 : 0);
        }
        List<Long> first = Edge.all(Edge.at(ROW, ""));
        for (String act : new String[] {"tell0", "tell2", "pull0", "mend3", "day1"}) {
            List<Long> behind = Edge.all(Edge.at(ROW, act + " undo"));
            Due.is("all as ahead of " + act + ": " + first + behind, behind.equals(first), true);
        }
    }

    /** "UNDO: the latest (16 are kept)." */
    private static void undoKept() {
        for (int n = 0; n <= 40; n++) {
            NextBell x = Edge.at(LATE, n == 0 ? "" : "day" + n);
            int kept = Math.min(n, 16);
            Due.is("kept of " + n, x.size(9), kept);
            for (int i = 1; i <= kept; i++) {
                Due.is("undo " + i + " of " + n, x.undo(), true);
                Due.is("day behind undo " + i + " of " + n, x.size(8), n - i);
                Due.is("left behind undo " + i + " of " + n, x.size(9), kept - i);
            }
            Due.is("no more than " + kept, x.undo(), false);
            Due.is("no more, trouble", x.trouble(), 6);
            Due.is("the day stays", x.size(8), n - kept);
            Due.is("anew", x.pull(0), true);
            Due.is("one is kept", x.size(9), 1);
            Due.is("anew undone", x.undo(), true);
            Due.is("its wire", x.house(0, 5), 0);
        }
        // The seventeenth act takes the place of the first, whatever sort they are.
        NextBell x = Edge.at(ROW, "tell2 pull0 mend3 day14");
        Due.is("tell2 is forgotten", x.size(9), 16);
        for (int i = 0; i < 16; i++) {
            x.undo();
        }
        Due.is("c was told", x.house(2, 4), 1);
        Due.is("a isn't pulled", x.house(0, 5), 0);
        Due.is("d is pulled", x.house(3, 5), 1);
        Due.is("nothing more", x.undo(), false);
        Due.is("nothing more, trouble", x.trouble(), 6);
        // Undone in between, acts are kept in their order.
        x = Edge.at(LATE, "day16 undo8 pull0 day8 undo8");
        Due.is("the pull is the latest", x.house(0, 5), 1);
        x.undo();
        Due.is("pull undone", x.house(0, 5), 0);
        Due.is("eight are left, less the one forgotten", x.size(9), 7);
        for (int i = 0; i < 7; i++) {
            x.undo();
        }
        Due.is("day 1", x.size(8), 1);
    }

    /** "ACTS: TELL a house, PULL a wire, MEND it, DAY": no other call is one, and no refused one. */
    private static void undoOthers() {
        NextBell x = Edge.at(ROW, "day1");
        for (Edge.Call call : Edge.REFUSABLE) {
            if (!List.of("tell", "pull", "mend", "day", "back").contains(call.name())) {
                call.ask().of(x);
                Due.is("no act: " + call.name(), x.size(9), 1);
            }
        }
        for (Edge.Call call : Edge.NEVER_REFUSED) {
            call.ask().of(x);
            Due.is("no act: " + call.name(), x.size(9), 1);
        }
        Due.is("undo the day", x.undo(), true);
        Due.is("day 0", x.size(8), 0);
    }

    /** Promise 44: "An IMAGE: its number. NONE: 1 (no STREET); 3."; "IMAGES: up to 3" */
    private static void image() {
        Edge.no(null, "", "image", 1, x -> x.image());
        Edge.is(ROW, "", "image 0", 0, x -> x.image());
        Edge.is(ROW, "image", "image 1", 1, x -> x.image());
        Edge.is(ROW, "image image", "image 2", 2, x -> x.image());
        Edge.no(ROW, "image image image", "no fourth", 3, x -> x.image());
        Edge.no(ROW, "image image image back0 back2", "all images stay", 3, x -> x.image());
        Edge.no(ROW, "day1 image image image undo", "undone, they stay", 3, x -> x.image());
    }

    /** Promise 45: "All is as by an IMAGE (all IMAGES stay): true; false: 1." */
    private static void back() {
        for (int i : new int[] {-1, 0, 1, 2, 3, Edge.LEAST, Edge.MOST}) {
            Edge.no(ROW, "tell2 day3", "no images: back " + i, 1, 0, x -> x.back(i) ? 1 : 0);
            Edge.no(null, "", "no street: back " + i, 1, 0, x -> x.back(i) ? 1 : 0);
        }
        for (int i : new int[] {-1, 1, 2, 3, Edge.LEAST, Edge.MOST}) {
            Edge.no(ROW, "tell2 image day3", "one image: back " + i, 1, 0, x -> x.back(i) ? 1 : 0);
        }
        for (int i : new int[] {-1, 3, 4, Edge.LEAST, Edge.MOST}) {
            Edge.no(ROW, "image image image day3", "three images: back " + i, 1, 0, x -> x.back(i) ? 1 : 0);
        }
        String acts = "image tell2 pull0 image day2 mend3 tell0 image day9";
        String[] ahead = {"", "tell2 pull0", "tell2 pull0 day2 mend3 tell0"};
        for (int i = 0; i < 3; i++) {
            NextBell x = Edge.at(ROW, acts);
            int image = i;
            Edge.is(ROW, acts, "back " + i, 1, y -> y.back(image) ? 1 : 0);
            x.back(i);
            List<Long> due = Edge.all(Edge.at(ROW, ahead[i]));
            due.set(9, 0L);
            due.set(10, 3L);
            List<Long> got = Edge.all(x);
            Due.is("all is as by image " + i + ": " + due + got, got.equals(due), true);
            Due.is("back once more", x.back(i), true);
            Due.is("back to another", x.back(2 - i), true);
        }
    }

    /** "gone back to one, nothing can be undone" */
    private static void backThenActs() {
        Edge.no(ROW, "tell2 day3 image back0", "nothing can be undone", 6, 0, x -> x.undo() ? 1 : 0);
        Edge.no(ROW, "image tell2 day3 back0", "nor what came behind it", 6, 0, x -> x.undo() ? 1 : 0);
        Edge.is(ROW, "tell2 image day3", "an image alone takes nothing", 1, x -> x.undo() ? 1 : 0);
        NextBell x = Edge.at(ROW, "day20 image back0 pull0 pull1");
        Due.is("two acts", x.size(9), 2);
        Due.is("the second", x.undo(), true);
        Due.is("the first", x.undo(), true);
        Due.is("not pulled", x.house(0, 5) + x.house(1, 5), 0);
        Due.is("no more", x.undo(), false);
        Due.is("no more, trouble", x.trouble(), 6);
        Due.is("day 20", x.size(8), 20);
        // A refused one leaves what can be undone.
        x = Edge.at(ROW, "day3");
        Due.is("refused", x.back(0), false);
        Due.is("refused, trouble", x.trouble(), 1);
        Due.is("three are kept", x.size(9), 3);
    }

    /** Promise 46: "NoSuchElementException if there is none such." */
    private static void led() {
        String three = S + "house a stone calm;house b timber day 1 by 0;house c brick calm;house d timber calm;does b douse";
        int[] due = {0, 2, 3};
        for (int i = 0; i < 3; i++) {
            Due.is("led " + i, Due.led(Due.street(three), i), due[i]);
        }
        for (int i : new int[] {-1, -2, 3, 4, Edge.LEAST, Edge.MOST}) {
            Due.is("led " + i, Due.led(Due.street(three), i), -99);
            Due.is("led " + i + ", no street", Due.led(new NextBell(), i), -99);
        }
        Due.is("no street", Due.led(new NextBell(), 0), -99);
        Due.is("by those told", Due.led(Edge.at(three, "tell1"), 1), 1);
        Due.is("the fourth then", Due.led(Edge.at(three, "tell1"), 3), 3);
        Due.is("no fifth", Due.led(Edge.at(three, "tell1"), 4), -99);
        Due.is("all burn", Due.led(Due.street(ROW), 0), -99);
        Due.is("behind day 90 is burnt too", Due.led(Due.street(LATE), 0), -99);
        Due.is("all six", Due.led(Edge.at(LATE + ";does a douse", "tell0"), 5), 5);
        Due.is("no seventh", Due.led(Edge.at(LATE + ";does a douse", "tell0"), 6), -99);
        NextBell x = Due.street(three);
        x.burns(9);
        Due.led(x, 9);
        Due.is("what it throws is no trouble", x.trouble(), 1);
    }

    /** Promise 47: "NONE for others; 0 for what there isn't." */
    private static void size() {
        NextBell none = new NextBell();
        NextBell bare = Due.street(S + "house a stone calm");
        NextBell row = Edge.at("street fright 9;" + ROW.substring(S.length()), "tell2 pull0 mend3 day4 image image");
        row.feed(0, 0, 0, 0, 0);
        row.feed(0, 0, 0, 0, 0);
        int[] bareDue = {0, 1, 0, 0, 0, 0, 0, 0, 0, 0, 0, 0};
        int[] rowDue = {9, 4, 3, 3, 1, 2, 1, 2, 4, 7, 2, 40};
        for (int what = 0; what <= 11; what++) {
            Due.is("none: size " + what, none.size(what), 0);
            Due.is("bare: size " + what, bare.size(what), bareDue[what]);
            Due.is("row: size " + what, row.size(what), rowDue[what]);
        }
        for (int what : new int[] {-1, 12, 13, -2, Edge.LEAST, Edge.MOST}) {
            Due.is("none: size " + what, none.size(what), -1);
            Due.is("row: size " + what, row.size(what), -1);
        }
        // The most there can be of each.
        String most = "street fright 9;house a brick calm;house b brick calm;house c brick calm;house d brick calm;"
                + "house e brick calm;house f brick calm;spark a b days 1;spark a c days 1;spark a d days 1;spark a e days 1;"
                + "spark a f days 1;spark b a days 1;spark b c days 1;spark b d days 1;spark b e days 1;does a cut;does b cut;"
                + "does c cut;does d cut;does e cut;does f cut;pulled a;pulled b;pulled c;pulled d;pulled e;pulled f;"
                + "glass day 1;glass day 2;glass day 3;glass day 4;unknown a;unknown b;rung day 1 a;rung day 1 a;"
                + "rung day 1 a;rung day 1 a";
        NextBell x = Edge.at(most, "day90 image image image");
        for (int i = 0; i < 50; i++) {
            x.feed(0, 0, 0, 0, 0);
        }
        int[] mostDue = {9, 6, 9, 6, 6, 4, 2, 4, 90, 16, 3, 900};
        for (int what = 0; what <= 11; what++) {
            Due.is("most: size " + what, x.size(what), mostDue[what]);
        }
    }

    private static void sizeLeavesTrouble() {
        NextBell x = Due.street(ROW);
        int[] wrong = {-1, 0, 11, 12};
        for (int what : wrong) {
            x.burns(-1);
            x.size(what);
            Due.is("trouble behind size " + what, x.trouble(), 1);
            x.burns(0);
            x.size(what);
            Due.is("no trouble behind size " + what, x.trouble(), 0);
        }
    }

    /** "0 it wasn't; 1 there is none such; 2 a number; 3 no room; 4 a FAULT; 5 not so; 6 there is none" */
    private static void troubles() {
        NextBell x = new NextBell();
        Due.is("no call yet", x.trouble(), 0);
        x.day();
        Due.is("none such", x.trouble(), 1);
        x.street(1);
        Due.is("a number", x.trouble(), 2);
        x.street(0);
        Due.is("a fault", x.trouble(), 4);
        x.undo();
        Due.is("there is none", x.trouble(), 6);
        Due.tell(x, ROW);
        Due.is("it wasn't", x.trouble(), 0);
        x.mend(0);
        Due.is("not so", x.trouble(), 5);
        for (int i = 0; i < 4; i++) {
            x.image();
        }
        Due.is("no room", x.trouble(), 3);
        Due.is("asked twice", x.trouble(), 3);
    }

    /** "TROUBLE of the latest call that may be refused": each makes it 0 if it isn't, others leave it. */
    private static void troubleGone() {
        String text = S + "house a timber day 9 by 1;house b timber day 9 by 1;pulled b;glass day 5;unknown a";
        for (int trouble = 1; trouble <= 2; trouble++) {
            for (Edge.Call call : Edge.REFUSABLE) {
                NextBell x = Edge.at(text, "image");
                Edge.otherTrouble(x, 3 - trouble);
                Due.is("trouble ahead", x.trouble(), trouble);
                call.ask().of(x);
                Due.is("no trouble behind " + call.name(), x.trouble(), 0);
            }
            for (Edge.Call call : Edge.NEVER_REFUSED) {
                NextBell x = Edge.at(text, "image");
                Edge.otherTrouble(x, 3 - trouble);
                call.ask().of(x);
                Due.is("trouble is left by " + call.name(), x.trouble(), trouble);
            }
        }
        NextBell x = Edge.at(text, "day1");
        x.burns(9);
        x.undo();
        Due.is("no trouble behind undo", x.trouble(), 0);
        x.burns(9);
        Due.is("a good one", Due.tell(x, text), 2);
        Due.is("no trouble behind street", x.trouble(), 0);
    }

    /** "An object is used for at most 512 calls after it has been made": the last of them answers as the first. */
    private static void manyCalls() {
        NextBell x = Due.street(ROW);
        int calls = ROW.length() / 20 + 2;
        for (int i = calls; i < 511; i++) {
            if (i % 2 == 0) {
                x.pull(0);
            } else {
                x.mend(0);
            }
        }
        Due.is("16 are kept", x.size(9), 16);
    }
}
