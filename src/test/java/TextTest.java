/** Promises 1 to 5: a new object, THE TAPE, texts of streets and their faults. */
public final class TextTest {
    private static final String TWO = "street fright 5;house a brick calm;house b stone calm;";

    private TextTest() {
    }

    public static void main(String[] args) {
        newObject();
        tape();
        goodTexts();
        form();
        names();
        bounds();
        many();
        lacks();
        whatStays();
        Due.end("TextTest");
    }

    private static void newObject() {
        NextBell x = new NextBell();
        for (int what = 0; what <= 11; what++) {
            Due.is("new: size " + what, x.size(what), 0);
        }
        Due.is("new: trouble", x.trouble(), 0);
        Due.is("new: fault", x.fault(), 0);
        Due.is("new: where", x.where(), -1);
        Due.is("new: burns", x, x.burns(0), -1, 1);
        Due.is("new: fits", x, x.fits(), -1, 1);
        Due.is("new: odds", x, x.odds(0, 0, false), -1, 1);
        Due.is("new: tell", x, x.tell(0), -1, 1);
        Due.is("new: pull", x, x.pull(0), false, 1);
        Due.is("new: image", x, x.image(), -1, 1);
        Due.is("new: back", x, x.back(0), false, 1);
        Due.is("new: undo", x, x.undo(), false, 6);
        Due.is("new: led", Due.led(x, 0), -99);
        // A missing street is told ahead of a wrong number.
        Due.is("new: burnt", x, x.burnt(91), -1, 1);
        Due.is("new: next", x, x.next(-1), -1, 1);
        Due.is("new: safe", x, x.safe(91), -1, 1);
        Due.is("new: worstYear", x, x.worstYear(-1, 61), -1, 1);
    }

    private static void tape() {
        NextBell x = new NextBell();
        for (int i = 1; i <= 45; i++) {
            Due.is("feed " + i, x.feed(0x73747265, 0x65742066, 0x72696768, 0x7420353b, 0x20202020), 20 * i);
        }
        x.undo();
        Due.is("feed 46", x, x.feed(1, 2, 3, 4, 5), -1, 6);
        Due.is("bytes", x.size(11), 900);
        Due.is("more than there are", x, x.street(901), -1, 2);
        Due.is("fewer than none", x, x.street(-1), -1, 2);
        Due.is("bytes stay", x.size(11), 900);
        Due.is("no fault yet", x.fault(), 0);
        // The second line is a second street.
        fault(x, 900, 3, 20);
        Due.is("bytes are gone", x.size(11), 0);

        // The highest byte of each number is first, bytes above 127 are bytes like others.
        x.feed(0x73747265, 0x65742066, 0x72696768, 0x7420353b, 0xff202020);
        fault(x, 20, 1, 16);
        x.feed(0x73747265, 0x65742066, 0x72696768, 0x74203500, 0x20202020);
        fault(x, 20, 1, 15);
        // Nothing behind the n-th byte counts.
        x.feed(0x73747265, 0x65742066, 0x72696768, 0x74203500, 0x20202020);
        fault(x, 15, 6, 15);
    }

    private static void fault(NextBell x, int n, int fault, int place) {
        Due.is("street of " + n, x, x.street(n), -1, 4);
        Due.is("its fault", x.fault(), fault);
        Due.is("its place", x.where(), place);
    }

    private static void bad(String text, int fault, int place) {
        NextBell x = new NextBell();
        Due.feed(x, text);
        Due.is("'" + text + "'", x, x.street(text.length()), -1, 4);
        Due.is("fault of '" + text + "'", x.fault(), fault);
        Due.is("place in '" + text + "'", x.where(), place);
        Due.is("houses of '" + text + "'", x.size(1), 0);
    }

    private static NextBell good(String text, int houses) {
        NextBell x = new NextBell();
        Due.feed(x, text);
        Due.is("'" + text + "' (fault " + x.fault() + ")", x, x.street(text.length()), houses, 0);
        Due.is("fault of '" + text + "'", x.fault(), 0);
        Due.is("place in '" + text + "'", x.where(), -1);
        return x;
    }

    private static void goodTexts() {
        good("street fright 0;house a stone calm", 1);
        good("  street  fright 9 ;house a stone calm ; house b brick calm  ", 2);
        // Tokens need no blanks where they can't be mistaken, and wholes may begin with noughts.
        NextBell x = good("street fright009;house a timber day5by007", 1);
        Due.is("fright", x.size(0), 9);
        Due.is("day", x.house(0, 1), 5);
        Due.is("by", x.house(0, 2), 7);
        // Words that aren't ruled out are names, those of kinds too.
        good("street fright 0;house brick brick calm;house day stone day 60 by 100;spark day brick days 0", 2);
        good("street fright 0;house az stone calm;house za stone calm;spark az za days 1;spark za az days 1", 2);
        good("street fright 0;house a stone calm;glass day 0;house b stone calm;glass day 30;rung day 30 nobody", 2);
        x = good(TWO + "spark a b days 9;spark b a days 0;does b panic;does a douse;pulled b;pulled a;"
                + "glass day 1;glass day 2;glass day 3;glass day 30;unknown b;unknown a;"
                + "rung day 9 a;rung day 3 b;rung day 3 nobody;rung day 0 a", 2);
        int[] sizes = {5, 2, 2, 2, 2, 4, 2, 4, 0, 0, 0, 0};
        for (int what = 0; what < sizes.length; what++) {
            Due.is("size " + what, x.size(what), sizes[what]);
        }
        Due.is("size -1", x.size(-1), -1);
        Due.is("size 12", x, x.size(12), -1, 0);
        good("street fright 1;house a brick calm;house b brick calm;house c brick calm;house d brick calm;"
                + "house e brick calm;house abcdefgh brick calm", 6);
    }

    private static void form() {
        bad("", 1, 0);
        bad("   ", 1, 3);
        bad("street", 1, 6);
        bad("street fright", 1, 13);
        bad("street fright  ", 1, 15);
        bad("street fright x", 1, 14);
        bad("street fright 5;", 1, 16);
        bad("street fright 5 house", 1, 16);
        bad(";street fright 5", 1, 0);
        bad("5", 1, 0);
        bad("lane fright 5", 1, 0);
        bad("nobody", 1, 0);
        bad("Street fright 5", 1, 0);
        bad("streets fright 5", 1, 0);
        bad("street fright 5,house", 1, 15);
        bad("street fright 1234", 1, 14);
        bad(TWO + "house abcdefghi brick calm", 1, 60);
        bad(TWO + "house nobody", 1, 60);
        bad(TWO + "house 5", 1, 60);
        bad(TWO + "house c", 1, 61);
        bad(TWO + "house c calm", 1, 62);
        bad(TWO + "house c brick", 1, 67);
        bad(TWO + "house c brick calm 5", 1, 73);
        bad(TWO + "house c brick day", 1, 71);
        bad(TWO + "house c brick day 5", 1, 73);
        bad(TWO + "house c brick day 5;", 1, 73);
        bad(TWO + "house c brick day 5 by", 1, 76);
        bad(TWO + "spark", 1, 59);
        bad(TWO + "spark a", 1, 61);
        bad(TWO + "spark a street", 1, 62);
        bad(TWO + "spark a b", 1, 63);
        bad(TWO + "spark a b day 5", 1, 64);
        bad(TWO + "does a run", 1, 61);
        bad(TWO + "does a nothing", 1, 61);
        bad(TWO + "pulled", 1, 60);
        bad(TWO + "pulled nobody", 1, 61);
        bad(TWO + "glass 5", 1, 60);
        bad(TWO + "unknown ;", 1, 62);
        bad(TWO + "rung day 5", 1, 64);
        bad(TWO + "rung day 5 rung", 1, 65);
        bad(TWO + "rung a", 1, 59);
        bad(TWO + "\u0000", 1, 54);
        bad(TWO + "pulled a\n", 1, 62);
    }

    private static void names() {
        bad(TWO + "spark c", 2, 60);
        bad(TWO + "spark a c", 2, 62);
        bad(TWO + "does c", 2, 59);
        bad(TWO + "pulled c", 2, 61);
        bad(TWO + "unknown c", 2, 62);
        bad(TWO + "rung day 5 c", 2, 65);
        bad(TWO + "pulled aa", 2, 61);
        bad(TWO + "pulled calm", 2, 61);
        bad(TWO + "house a", 3, 60);
        bad(TWO + "spark a a", 3, 62);
        bad(TWO + "spark a b days 1;spark a b", 3, 79);
        bad(TWO + "does a cut;does a", 3, 70);
        bad(TWO + "pulled a;pulled a", 3, 70);
        bad(TWO + "unknown a;unknown a", 3, 72);
        bad(TWO + "street", 3, 54);
        bad("street fright 5;street", 3, 16);
    }

    private static void bounds() {
        bad("street fright 10", 4, 14);
        bad(TWO + "house c brick day 61", 4, 72);
        bad(TWO + "house c brick day 60 by 101", 4, 78);
        bad(TWO + "spark a b days 10", 4, 69);
        bad(TWO + "glass day 31", 4, 64);
        bad(TWO + "glass day 5;glass day 5", 4, 76);
        bad(TWO + "glass day 5;glass day 4", 4, 76);
        bad(TWO + "glass day 30;glass day 31", 4, 77);
        bad(TWO + "rung day 31", 4, 63);
        bad(TWO + "rung day 999 a", 4, 63);
    }

    private static void many() {
        String six = "street fright 1;house a brick calm;house b brick calm;house c brick calm;"
                + "house d brick calm;house e brick calm;house f brick calm;";
        bad(six + "house", 5, six.length());
        bad(six + "house a", 5, six.length());
        String sparks = "spark a b days 1;spark a c days 1;spark a d days 1;spark a e days 1;spark a f days 1;"
                + "spark b a days 1;spark b c days 1;spark b d days 1;spark b e days 1;";
        good(six + sparks + "pulled a", 6);
        bad(six + sparks + "spark b f days 1", 5, (six + sparks).length());
        String glasses = TWO + "glass day 1;glass day 2;glass day 3;glass day 4;";
        bad(glasses + "glass day 5", 5, glasses.length());
        String unknown = TWO + "unknown a;unknown b;";
        bad(unknown + "unknown a", 5, unknown.length());
        String rung = TWO + "rung day 1 a;rung day 1 b;rung day 1 nobody;rung day 1 a;";
        bad(rung + "rung", 5, rung.length());
    }

    private static void lacks() {
        bad("house a brick calm;street fright 1", 6, 0);
        bad("  house", 6, 2);
        bad("rung day 99", 6, 0);
        bad("street fright 5", 6, 15);
        bad("street fright 5;glass day 1  ", 6, 29);
        bad("street fright 5;rung day 1 nobody", 6, 33);
    }

    private static void whatStays() {
        NextBell x = good("street fright 3;house a timber day 5 by 50;does a panic;pulled a", 1);
        x.tell(0);
        x.mend(0);
        x.day();
        x.image();
        // A faulty text leaves the street, what was done in it, and its images.
        Due.is("faulty", x, Due.tell(x, "street fright 12"), -1, 4);
        Due.is("fault", x.fault(), 4);
        Due.is("where", x.where(), 14);
        Due.is("fright stays", x.size(0), 3);
        Due.is("day stays", x.size(8), 1);
        Due.is("acts stay", x.size(9), 3);
        Due.is("images stay", x.size(10), 1);
        Due.is("told stays", x, x.house(0, 4), 1, 0);
        Due.is("where is gone", x.where(), -1);
        Due.is("fault isn't", x.fault(), 4);
        Due.is("refused by its number", x, x.street(1), -1, 2);
        Due.is("fault of the one ahead", x.fault(), 4);
        Due.is("where is none", x.where(), -1);
        // A call that can't be refused leaves the trouble, and the place.
        Due.tell(x, "street fright 12");
        x.size(3);
        x.feed(0, 0, 0, 0, 0);
        x.fault();
        Due.led(x, 5);
        Due.is("trouble is left", x.trouble(), 4);
        Due.is("place is left", x.where(), 14);
        // A good one begins anew.
        x.street(0);
        Due.is("anew", x, Due.tell(x, "street fright 4;house b timber day 5 by 50;pulled b"), 1, 0);
        Due.is("fault is gone", x.fault(), 0);
        Due.is("day 0", x.size(8), 0);
        Due.is("nothing to undo", x.size(9), 0);
        Due.is("no images", x.size(10), 0);
        Due.is("nobody told", x.house(0, 4), 0);
        Due.is("wires as told", x.house(0, 5), 1);
        Due.is("does nothing", x.house(0, 3), 0);
        Due.is("no undo", x, x.undo(), false, 6);
        Due.is("no back", x, x.back(0), false, 1);
    }
}
