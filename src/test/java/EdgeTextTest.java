import java.util.List;

/**
 * The boundary cases of Terms I (the text of a STREET and its FAULTS) and of promises 1 to 5. In a text that is faulty a
 * ^ stands ahead of the place at which the fault is due.
 */
public final class EdgeTextTest {
    private static final String S = "street fright 5;";
    private static final String A = S + "house a brick calm;house b stone calm;";
    private static final String SIX = S + "house a brick calm;house b brick calm;house c brick calm;"
            + "house d brick calm;house e brick calm;house f brick calm;";
    private static final List<String> NO_NAMES =
            List.of("street", "house", "spark", "does", "pulled", "glass", "unknown", "rung", "nobody");
    private static final List<String> LINES = List.of("house", "spark", "does", "pulled", "glass", "unknown", "rung");

    private EdgeTextTest() {
    }

    public static void main(String[] args) {
        blanks();
        words();
        wholes();
        otherBytes();
        semicolons();
        streetLine();
        houseLines();
        sparkLines();
        doesAndPulled();
        glassLines();
        unknownLines();
        rungLines();
        names();
        form();
        untold();
        again();
        leftmost();
        onePlace();
        lacks();
        newObject();
        feeding();
        numbersOfStreet();
        firstBytes();
        goodStreet();
        manyStreets();
        faultyStreet();
        fault();
        where();
        Due.end("EdgeTextTest");
    }

    // ---- a text and what it must be

    private static void good(String text, int houses) {
        NextBell x = new NextBell();
        Due.feed(x, text);
        Edge.otherTrouble(x, 0);
        Due.is("'" + text + "'", x.street(text.length()), houses);
        Due.is("trouble of '" + text + "'", x.trouble(), 0);
        Due.is("fault of '" + text + "'", x.fault(), 0);
        Due.is("place in '" + text + "'", x.where(), -1);
        Due.is("houses of '" + text + "'", x.size(1), houses);
        Due.is("tape behind '" + text + "'", x.size(11), 0);
    }

    private static void bad(int fault, String marked) {
        int place = marked.indexOf('^');
        String text = marked.substring(0, place) + marked.substring(place + 1);
        NextBell x = new NextBell();
        Due.feed(x, text);
        Edge.otherTrouble(x, 4);
        Due.is("'" + marked + "'", x.street(text.length()), -1);
        Due.is("trouble of '" + marked + "'", x.trouble(), 4);
        Due.is("fault of '" + marked + "'", x.fault(), fault);
        Due.is("place in '" + marked + "'", x.where(), place);
        Due.is("houses of '" + marked + "'", x.size(1), 0);
        Due.is("tape behind '" + marked + "'", x.size(11), 0);
    }

    // ---- tokens

    /** "blanks, 32, part TOKENS and mean nothing else" */
    private static void blanks() {
        good("street fright 5;house a brick calm", 1);
        good("   street   fright   5   ;   house   a   brick   calm   ", 1);
        good("street fright5;house a brick day5by7", 1);
        bad(1, "^stre et fright 5;house a brick calm");
        bad(1, "street fright 0 ^5;house a brick calm");
        bad(1, "^streetfright 5;house a brick calm");
        bad(1, "street^\tfright 5;house a brick calm");
        bad(1, "street^\nfright 5;house a brick calm");
        bad(1, "street^" + (char) 160 + "fright 5");
    }

    /** "WORDS of 1 to 8 small letters that stand together" */
    private static void words() {
        good(S + "house z brick calm", 1);
        good(S + "house abcdefgh brick calm;pulled abcdefgh", 1);
        good(S + "house zzzzzzzz brick calm;house zzzzzzzy brick calm;house zzzzzzz brick calm;house yzzzzzzz brick calm", 4);
        for (char c = 'a'; c <= 'z'; c++) {
            StringBuilder text = new StringBuilder(S + "house x" + c + " brick calm;house " + c + "x" + c + " brick calm");
            for (int letters : new int[] {1, 2, 7, 8}) {
                text.append(";house ").append(String.valueOf(c).repeat(letters)).append(" brick calm");
            }
            if (c != 'x') {
                good(text.toString(), 6);
            }
        }
        bad(1, S + "house ^abcdefghi brick calm");
        bad(1, A + "pulled ^abcdefghi");
        bad(1, S + "house ^abcdefghabcdefgh brick calm");
        bad(1, A + "^unknownab a");
        bad(1, S + "house ^A brick calm");
        bad(1, S + "house a^B brick calm");
        bad(1, S + "house a^- brick calm");
        bad(1, "^STREET fright 5");
    }

    /** "WHOLES of 1 to 3 digits that do" */
    private static void wholes() {
        good("street fright 005;house a brick day 000 by 100", 1);
        good("street fright 9;house a brick day 07 by 7", 1);
        bad(1, "street fright ^0005;house a brick calm");
        bad(1, "street fright ^1234567890123;house a brick calm");
        bad(1, S + "house a brick day ^0000 by 1");
        bad(1, "street fright ^-1;house a brick calm");
        bad(1, "street fright 1^.;house a brick calm");
    }

    /** "1 FORM: the first byte that begins no TOKEN": those next to letters, digits, the blank and ;, and the outermost. */
    private static void otherBytes() {
        int[] bytes = {0, 1, 10, 31, 33, 47, 58, 60, 64, 65, 90, 91, 95, 96, 123, 127, 128, 160, 200, 255};
        for (int b : bytes) {
            bad(1, "^" + (char) b);
            bad(1, "street fright 5^" + (char) b);
            bad(1, S + "house a^" + (char) b);
            bad(1, S + "house a brick calm^" + (char) b);
            bad(1, S + "house a brick calm ; ^" + (char) b);
        }
    }

    /** "single ones of ;" and "LINE {; LINE}" */
    private static void semicolons() {
        good("street fright 5;house a brick calm", 1);
        bad(1, "^;");
        bad(1, "^;street fright 5");
        bad(1, "street fright 5;^;house a brick calm");
        bad(1, "street fright 5; ^;house a brick calm");
        bad(1, "street fright 5 ^house a brick calm");
        bad(1, S + "house a brick calm;^");
        bad(1, S + "house a brick calm;  ^");
        bad(1, S + "house a brick calm;^;");
        bad(1, "street fright^;5");
    }

    // ---- lines

    /** "street fright WHOLE (0 .. 9), ahead of all others" */
    private static void streetLine() {
        for (int fright = 0; fright <= 9; fright++) {
            NextBell x = Due.street("street fright " + fright + ";house a stone calm");
            Due.is("fright " + fright, x.size(0), fright);
        }
        bad(4, "street fright ^10;house a brick calm");
        bad(4, "street fright ^999;house a brick calm");
        bad(4, "street fright ^010");
    }

    /** "day WHOLE by WHOLE .. (KIND: brick, thatch, timber, or stone; 0 .. 60; 0 .. 100 in a hundred; up to 6)" */
    private static void houseLines() {
        String[] kinds = {"brick", "thatch", "timber", "stone"};
        for (int kind = 0; kind < 4; kind++) {
            NextBell x = Due.street(S + "house a " + kinds[kind] + " day 0 by 0;house b " + kinds[kind] + " day 60 by 100;"
                    + "house c " + kinds[kind] + " calm");
            Due.is(kinds[kind], x.house(0, 0) + 10 * x.house(1, 0) + 100 * x.house(2, 0), 111 * kind);
            Due.is("day 0", x.house(0, 1), 0);
            Due.is("by 0", x.house(0, 2), 0);
            Due.is("day 60", x.house(1, 1), 60);
            Due.is("by 100", x.house(1, 2), 100);
            Due.is("calm", x.house(2, 1), -2);
        }
        bad(4, S + "house a brick day ^61 by 5");
        bad(4, S + "house a brick day ^999 by 5");
        bad(4, S + "house a brick day 60 by ^101");
        bad(4, S + "house a brick day 0 by ^999");
        bad(1, S + "house a ^bricks calm");
        bad(1, S + "house a ^straw calm");
        bad(1, S + "house a brick ^calmer");
        good(SIX + "pulled f", 6);
        bad(5, SIX + "^house g brick calm");
        bad(5, SIX + "pulled a;^house g brick calm");
    }

    /** "spark HOUSE HOUSE days WHOLE (unlike; each two in that order once; 0 .. 9; up to 9)" */
    private static void sparkLines() {
        good(A + "spark a b days 0;spark b a days 9", 2);
        bad(4, A + "spark a b days ^10");
        bad(4, A + "spark a b days ^999");
        bad(3, A + "spark a ^a days 1");
        bad(3, A + "spark b ^b days 1");
        bad(3, A + "spark a b days 1;spark a ^b days 1");
        bad(3, A + "spark a b days 1;spark b a days 1;spark b ^a days 2");
        bad(1, A + "spark a b ^day 1");
        String nine = SIX + "spark a b days 1;spark b a days 1;spark a c days 1;spark c a days 1;spark a d days 1;"
                + "spark d a days 1;spark a e days 1;spark e a days 1;spark f e days 1";
        good(nine, 6);
        bad(5, nine + ";^spark e f days 1");
        bad(5, nine + ";^spark a a days 1");
        bad(5, nine + ";^spark");
        Due.is("nine sparks", Due.street(nine).size(2), 9);
        Due.is("the ninth", Due.street(nine).spark(5, 4), 2);
    }

    /** "does HOUSE DOING (douse, cut, or panic; each house once)", "pulled HOUSE (each once)" */
    private static void doesAndPulled() {
        NextBell x = Due.street(SIX + "does a douse;does b cut;does c panic;does d douse;does e cut;does f panic;"
                + "pulled a;pulled b;pulled c;pulled d;pulled e;pulled f");
        for (int h = 0; h < 6; h++) {
            Due.is("does " + h, x.house(h, 3), h % 3 + 1);
            Due.is("pulled " + h, x.house(h, 5), 1);
        }
        Due.is("all do", x.size(3), 6);
        Due.is("all pulled", x.size(4), 6);
        bad(3, A + "does a cut;does ^a cut");
        bad(3, A + "does a cut;does b cut;does ^a douse");
        bad(1, A + "does a ^nothing");
        bad(1, A + "does a^;");
        bad(3, A + "pulled a;pulled ^a");
        bad(3, A + "pulled b;pulled a;pulled ^b");
    }

    /** "glass day WHOLE (0 .. 30; later than the one ahead; up to 4)" */
    private static void glassLines() {
        good(A + "glass day 0;glass day 30", 2);
        bad(4, A + "glass day ^31");
        bad(4, A + "glass day ^999");
        bad(4, A + "glass day 0;glass day ^0");
        bad(4, A + "glass day 9;glass day ^8");
        bad(4, A + "glass day 30;glass day ^30");
        bad(4, A + "glass day 3;glass day 9;glass day ^5");
        bad(1, A + "glass ^days 3");
        String four = A + "glass day 27;glass day 28;glass day 29;glass day 30";
        Due.is("four glasses", Due.street(four).size(5), 4);
        bad(5, four + ";^glass day 31");
        bad(5, A + "glass day 1;glass day 2;glass day 3;glass day 4;^glass day 5");
    }

    /** "unknown HOUSE (each once; up to 2)" */
    private static void unknownLines() {
        Due.is("two unknown", Due.street(A + "unknown b;unknown a").size(6), 2);
        bad(3, A + "unknown a;unknown ^a");
        bad(5, SIX + "unknown a;unknown b;^unknown c");
        bad(5, SIX + "unknown a;unknown b;^unknown b");
    }

    /** "rung day WHOLE HOUSE, or rung day WHOLE nobody (0 .. 30; up to 4)" */
    private static void rungLines() {
        good(A + "rung day 0 a;rung day 30 nobody", 2);
        good(A + "rung day 30 a;rung day 30 a;rung day 0 b", 2);
        bad(4, A + "rung day ^31 a");
        bad(4, A + "rung day ^999 nobody");
        bad(1, A + "rung day 5^;");
        bad(1, A + "rung day 5 a ^b");
        bad(1, A + "rung day 5 nobody ^a");
        String four = A + "rung day 1 a;rung day 1 a;rung day 1 nobody;rung day 1 nobody";
        Due.is("four rung", Due.street(four).size(7), 4);
        bad(5, four + ";^rung day 1 a");
        bad(5, four + ";^rung");
    }

    /** "NAMES are WORDS but street, house, spark, does, pulled, glass, unknown, rung, nobody" */
    private static void names() {
        for (String word : NO_NAMES) {
            bad(1, S + "house ^" + word + " brick calm");
            bad(1, A + "spark ^" + word + " b days 1");
            bad(1, A + "spark a ^" + word + " days 1");
            bad(1, A + "does ^" + word + " cut");
            bad(1, A + "pulled ^" + word);
            bad(1, A + "unknown ^" + word);
            if (word.equals("nobody")) {
                good(A + "rung day 1 nobody", 2);
            } else {
                bad(1, A + "rung day 1 ^" + word);
            }
            String longer = word.length() < 8 ? word + "s" : "s" + word;
            good(S + "house " + longer + " brick calm;pulled " + longer, 1);
            good(S + "house " + word.substring(1) + " brick calm;pulled " + word.substring(1), 1);
        }
        for (String word : List.of("fright", "day", "days", "by", "calm", "brick", "thatch", "timber", "stone", "douse",
                "cut", "panic")) {
            good(S + "house " + word + " brick calm;house x brick calm;spark " + word + " x days 1;spark x " + word
                    + " days 1;does " + word + " cut;pulled " + word + ";unknown " + word + ";rung day 1 " + word, 2);
        }
    }

    // ---- faults

    /** "1 FORM: .. or TOKEN with which no STREET goes on (the end: its place)": at each token of each line, and the end. */
    private static void form() {
        String[] lines = {"house c brick day 5 by 5", "house c brick calm", "spark a b days 5", "does a cut", "pulled a",
            "glass day 5", "unknown a", "rung day 5 a", "rung day 5 nobody"};
        for (String line : lines) {
            String[] tokens = line.split(" ");
            StringBuilder ahead = new StringBuilder(A);
            for (String token : tokens) {
                bad(1, ahead + "^;");
                bad(1, ahead + "^");
                bad(1, ahead + (token.matches("[0-9]+") ? "^x" : "^7"));
                ahead.append(token).append(' ');
            }
            bad(1, ahead + "^7");
            bad(1, ahead + "^x");
            bad(1, ahead + "^house");
            bad(1, ahead + ";^");
        }
        bad(1, "^");
        bad(1, "    ^");
        bad(1, "street^");
        bad(1, "street ^5");
        bad(1, "street ^street");
        bad(1, "street fright^");
        bad(1, "street fright ^;");
        bad(1, "street fright ^fright");
        bad(1, "^nobody");
        bad(1, "^fright 5");
        bad(1, "^5");
        bad(1, S + "^nobody");
        bad(1, S + "^fright 5");
    }

    /** "2 a NAME that isn't told; at it", "each told once, ahead of its use" */
    private static void untold() {
        bad(2, A + "spark ^c a days 1");
        bad(2, A + "spark a ^c days 1");
        bad(2, A + "does ^c cut");
        bad(2, A + "pulled ^c");
        bad(2, A + "unknown ^c");
        bad(2, A + "rung day 1 ^c");
        bad(2, A + "pulled ^c;house c brick calm");
        bad(2, S + "pulled ^a;house a brick calm");
        bad(2, A + "pulled ^brick");
        good(A + "house c brick calm;pulled c", 3);
    }

    /** "3 a NAME told again; at it; .. a HOUSE that does, is pulled, is unknown already; at it; a second street" */
    private static void again() {
        bad(3, A + "house ^a stone calm");
        bad(3, A + "house ^b stone calm");
        bad(3, A + "house ^b");
        bad(3, S + "^street fright 5");
        bad(3, S + "house a brick calm;^street fright 5");
        bad(3, S + "house a brick calm;^street");
        good(A + "pulled a;unknown a;does a cut;rung day 1 a;rung day 1 a", 2);
    }

    /** "FAULTS, the first that is met from the left" */
    private static void leftmost() {
        bad(4, "street fright ^10;house nobody;pulled c");
        bad(6, "^pulled c;street fright 10;" + (char) 7);
        bad(2, A + "pulled ^c;pulled a;pulled a;street;!");
        bad(3, A + "spark a ^a days 99");
        bad(4, A + "spark a b days ^99 99");
        bad(5, SIX + "^house a straw");
        bad(5, SIX + "unknown a;unknown b;^unknown nobody");
        bad(4, S + "house a brick day ^61 by 101");
        bad(1, S + "house a^!;house a brick calm;house a brick calm");
    }

    /** "of one place the least number" */
    private static void onePlace() {
        bad(1, "street fright 5;^");
        bad(1, S + "glass day 1;^");
        bad(1, "street fright ^1000;house a brick calm");
        bad(1, A + "spark ^street b days 1");
        bad(1, A + "glass day 5;glass day ^0001");
        bad(4, A + "glass day 30;glass day ^31");
        bad(3, S + "^street fright 99");
    }

    /** "6 LACKS: any LINE ahead of the street; at its WORD; at the end: no house" */
    private static void lacks() {
        for (String word : LINES) {
            bad(6, "^" + word);
            bad(6, "  ^" + word + " a;street fright 5;house a brick calm");
        }
        bad(6, "street fright 5^");
        bad(6, "street fright 5   ^");
        bad(6, "street fright 5;glass day 1;rung day 1 nobody^");
        bad(6, "street fright 5;glass day 1;rung day 1 nobody ^");
    }

    // ---- promises 1 to 5

    /** Promise 1: "No STREET." */
    private static void newObject() {
        NextBell x = new NextBell();
        Due.is("new: trouble", x.trouble(), 0);
        Due.is("new: fault", x.fault(), 0);
        Due.is("new: where", x.where(), -1);
        for (int what = 0; what <= 11; what++) {
            Due.is("new: size " + what, x.size(what), 0);
        }
        Due.is("new: led 0", Due.led(x, 0), -99);
        for (Edge.Call call : Edge.REFUSABLE) {
            Edge.no(null, "", "no street: " + call.name(), 1, call.none(), call.ask());
        }
        Edge.no(null, "", "no street: undo", 6, 0, y -> y.undo() ? 1 : 0);
    }

    /** Promise 2: "how many it has; NONE, and none comes, if there would be more than 900" */
    private static void feeding() {
        NextBell x = new NextBell();
        String text = S + "house a brick calm;";
        String full = text + " ".repeat(900 - text.length() - 8) + "pulled a";
        for (int i = 0; i < 45; i++) {
            int[] f = new int[5];
            for (int k = 0; k < 20; k++) {
                f[k / 4] = f[k / 4] << 8 | full.charAt(20 * i + k);
            }
            Due.is("feed " + i, x.feed(f[0], f[1], f[2], f[3], f[4]), 20 * (i + 1));
            Due.is("bytes " + i, x.size(11), 20 * (i + 1));
        }
        for (int trouble = 1; trouble <= 2; trouble++) {
            Edge.otherTrouble(x, 3 - trouble);
            Due.is("too many", x.feed(0x21212121, 0x21212121, 0x21212121, 0x21212121, 0x21212121), -1);
            Due.is("none comes", x.size(11), 900);
            Due.is("its trouble isn't told", x.trouble(), trouble);
        }
        Due.is("all 900", x.street(900), 1);
        Due.is("the last of them", x.house(0, 5), 1);
        Due.is("there is room again", x.feed(0, 0, 0, 0, 0), 20);
        // Of each number the highest byte first, the first number first.
        NextBell y = new NextBell();
        y.feed(0x73747265, 0x65742066, 0x72696768, 0x7420333b, 0x686f7573);
        y.feed(0x65206120, 0x73746f6e, 0x65206361, 0x6c6d3b70, 0x756c6c65);
        y.feed(0x64206120, 0x20202020, 0x20202020, 0x20202020, 0x202020ff);
        Due.is("by bytes", y.street(59), 1);
        Due.is("by bytes: fright", y.size(0), 3);
        Due.is("by bytes: stone", y.house(0, 0), 3);
        Due.is("by bytes: pulled", y.house(0, 5), 1);
    }

    /** Promise 3: "NONE: 2 (THE TAPE stays)" */
    private static void numbersOfStreet() {
        int[] wrong = {-1, 41, 900, 901, Edge.LEAST, Edge.MOST};
        for (int n : wrong) {
            NextBell x = Due.street(A + "pulled a");
            x.day();
            x.image();
            Due.feed(x, "street fright 7;house z timber calm     ");
            List<Long> ahead = Edge.all(x);
            x.burns(-1);
            Due.is("street " + n, x.street(n), -1);
            Due.is("trouble of street " + n, x.trouble(), 2);
            Due.is("where of street " + n, x.where(), -1);
            Due.is("all stays behind street " + n, Edge.all(x).equals(ahead), true);
            Due.is("the tape stays", x.street(40), 1);
            Due.is("its bytes too", x.size(0), 7);
        }
        NextBell x = new NextBell();
        Due.is("1 of none", x.street(1), -1);
        Due.is("1 of none, trouble", x.trouble(), 2);
        Due.is("1 of none, fault", x.fault(), 0);
        // None of none is a text: an empty one.
        Due.is("0 of none", x.street(0), -1);
        Due.is("0 of none, trouble", x.trouble(), 4);
        Due.is("0 of none, fault", x.fault(), 1);
        Due.is("0 of none, where", x.where(), 0);
    }

    /** Promise 3: "The first n bytes of THE TAPE (it is empty then)" */
    private static void firstBytes() {
        String text = S + "house a brick calm;house b stone calm";
        for (int n = 0; n <= text.length(); n++) {
            NextBell x = new NextBell();
            Due.feed(x, text);
            int houses = n == text.length() ? 2 : n == 34 ? 1 : -1;
            Due.is("the first " + n, x.street(n), houses);
            Due.is("the first " + n + ", trouble", x.trouble(), houses < 0 ? 4 : 0);
            Due.is("the first " + n + ", the tape is empty", x.size(11), 0);
            Due.is("nothing is left", x.street(1), -1);
            Due.is("nothing is left, trouble", x.trouble(), 2);
        }
        // Digits and letters behind the n-th byte belong to nothing, though they stand together with those ahead.
        NextBell x = new NextBell();
        Due.feed(x, "street fright 0;house a brick day 10 by 100");
        Due.is("ten of a hundred", x.street(42), 1);
        Due.is("by 10", x.house(0, 2), 10);
        Due.feed(x, "street fright 99;house a brick calm");
        Due.is("fright 9", x.street(15), -1);
        Due.is("fright 9, no house", x.fault(), 6);
        Due.is("fright 9, the end", x.where(), 15);
        Due.feed(x, "street fright 0;house a brick calmly");
        Due.is("calm", x.street(34), 1);
    }

    /** Promise 3: "(day 0, nobody TOLD, wires as told; nothing to undo, no IMAGES)" */
    private static void goodStreet() {
        NextBell x = Edge.at(S + "house a timber day 9 by 5;house b timber day 9 by 5;house c timber calm;spark a b days 1;"
                + "spark b c days 1;does a panic;does b cut;pulled a;glass day 1;unknown a;rung day 1 a",
                "tell0 tell1 mend0 pull1 pull2 day3 image image image");
        x.ways();
        x.fits();
        Due.is("behind acts", Due.tell(x, "street fright 6;house z timber day 9 by 8;house y timber day 7 by 5;pulled y"), 2);
        int[] sizes = {6, 2, 0, 0, 1, 0, 0, 0, 0, 0, 0, 0};
        for (int what = 0; what < sizes.length; what++) {
            Due.is("anew: size " + what, x.size(what), sizes[what]);
        }
        int[][] houses = {{2, 9, 8, 0, 0, 0}, {2, 7, 5, 0, 0, 1}};
        for (int h = 0; h < 2; h++) {
            for (int what = 0; what < 6; what++) {
                Due.is("anew: house " + h + " " + what, x.house(h, what), houses[h][what]);
            }
        }
        Due.is("anew: no third", x.house(2, 0), -1);
        Due.is("anew: no sparks", x.spark(0, 1), -2);
        Due.is("anew: nothing to undo", x.undo(), false);
        Due.is("anew: nothing to undo, trouble", x.trouble(), 6);
        for (int image = 0; image < 3; image++) {
            Due.is("anew: no image", x.back(image), false);
            Due.is("anew: no image, trouble", x.trouble(), 1);
        }
        Due.is("anew: images from 0", x.image(), 0);
        Due.is("anew: ways", x.ways(), 1);
        Due.is("anew: no ring", x.wayAt(0, 0), -1);
        Due.is("anew: fits", x.fits(), 1);
        Due.is("anew: all are free to be told", x.tell(0), 9);
    }

    /** One street behind the other, good and faulty ones: nothing of those ahead is left, asked or not. */
    private static void manyStreets() {
        String rich = "street fright 9;house a brick day 1 by 9;house b thatch calm;house c stone day 3 by 7;spark a b days 1;"
                + "spark b a days 1;does a cut;does b panic;pulled a;pulled c;glass day 0;glass day 9;unknown b;unknown a;"
                + "rung day 1 a;rung day 2 nobody";
        String bare = "street fright 0;house a timber day 5 by 50;house b timber calm";
        int[] bareDue = {0, 2, 0, 0, 0, 0, 0, 0, 0, 0, 0, 0};
        for (int order = 0; order < 16; order++) {
            NextBell x = new NextBell();
            for (int i = 0; i < 4; i++) {
                String text = (order >> i & 1) == 0 ? rich : rich + ";";
                Due.is("one ahead", Due.tell(x, text), text.equals(rich) ? 3 : -1);
                x.ways();
                x.fits();
            }
            Due.is("bare", Due.tell(x, bare), 2);
            for (int what = 0; what <= 11; what++) {
                Due.is("bare, size " + what, x.size(what), bareDue[what]);
            }
            Due.is("bare, no sparks", x.spark(0, 1), -2);
            Due.is("bare, does nothing", x.house(0, 3) + x.house(1, 3), 0);
            Due.is("bare, no wire is pulled", x.house(0, 5) + x.house(1, 5), 0);
            Due.is("bare, one way", x.ways(), 1);
            Due.is("bare, no ring", x.wayAt(0, 0), -1);
            Due.is("bare, nobody could", x.couldRing(), 0);
            Due.is("bare, one fit", x.fits(), 1);
            Due.is("bare, a is next by it", x.nextBy(0, 4), 1);
            Due.is("bare, nothing unknown", x.fitAt(0, 0), -1);
            Due.is("bare, judged", x.judge(), -2);
        }
        // Like days, wires and houses told, yet another street.
        NextBell x = Due.street("street fright 0;house a timber day 5 by 50;glass day 1;glass day 2;unknown a");
        Due.is("for a", x.wayAt(0, 1), 0);
        Due.is("eleven fits", x.fits(), 11);
        Due.tell(x, bare + ";glass day 7");
        Due.is("for nobody", x.wayAt(0, 0), -2);
        Due.is("one ring", x.wayAt(0, 1), -1);
        Due.is("nobody could", x.couldRing(), 0);
        Due.is("one fit", x.fits(), 1);
        Due.is("next by it", x.nextBy(0, 4), 1);
        Due.is("next by none", x.nextBy(0, 5), 0);
    }

    /** Promise 3: "4 (the STREET stays)" */
    private static void faultyStreet() {
        String text = S + "house a timber day 9 by 5;house b timber calm;spark a b days 1;does a panic;pulled a;"
                + "glass day 1;glass day 2;unknown b;rung day 1 a";
        String[] faulty = {"", "street fright 9;house q stone calm;house r stone calm;house s stone calm;pulled x",
            "street fright 9;house q stone day 1 by 1;spark q q", "lane", "street fright 9", "house"};
        for (String other : faulty) {
            NextBell x = Edge.at(text, "image tell0 image mend0 day2");
            List<Long> ahead = Edge.all(x);
            int ways = x.ways();
            int fits = x.fits();
            Due.feed(x, other);
            Due.is("faulty: '" + other + "'", x.street(other.length()), -1);
            Due.is("its trouble", x.trouble(), 4);
            List<Long> behind = Edge.all(x);
            ahead.set(12, (long) x.fault());
            Due.is("the street stays behind '" + other + "': " + ahead + behind, behind.equals(ahead), true);
            Due.is("its sparks stay", x.spark(0, 1), 1);
            Due.is("its ways stay", x.ways(), ways);
            Due.is("its fits stay", x.fits(), fits);
            Due.is("what can be undone stays", x.undo(), true);
            Due.is("day 1", x.size(8), 1);
            Due.is("images stay", x.back(0), true);
            Due.is("nobody told", x.house(0, 4), 0);
        }
    }

    /** Promise 4: "The FAULT of the latest street() not refused by 2; 0 without one." */
    private static void fault() {
        NextBell x = new NextBell();
        Due.is("none yet", x.fault(), 0);
        x.street(-1);
        Due.is("refused by 2, still none", x.fault(), 0);
        String[] texts = {"lane", A + "pulled c", S + S, "street fright 10", SIX + "house", "house"};
        for (int fault = 1; fault <= 6; fault++) {
            Due.tell(x, texts[fault - 1]);
            Due.is("fault " + fault, x.fault(), fault);
            x.street(21);
            Due.is("refused by 2 behind fault " + fault, x.fault(), fault);
            for (Edge.Call call : Edge.REFUSABLE) {
                call.ask().of(x);
            }
            Due.is("other calls behind fault " + fault, x.fault(), fault);
        }
        Due.tell(x, A + "pulled a");
        Due.is("a good one has none", x.fault(), 0);
        x.street(1);
        Due.is("refused by 2 behind a good one", x.fault(), 0);
    }

    /** Promise 5: "Its place, if the latest call that may be refused was by 4; NONE else." */
    private static void where() {
        for (Edge.Call call : Edge.REFUSABLE) {
            NextBell x = Due.street(A + "pulled b");
            Due.tell(x, "street fright 10");
            Due.is("its place", x.where(), 14);
            call.ask().of(x);
            Due.is("no place behind " + call.name(), x.where(), -1);
        }
        NextBell x = new NextBell();
        Due.tell(x, "street fright 10");
        for (Edge.Call call : Edge.NEVER_REFUSED) {
            call.ask().of(x);
            Due.is("its place stays behind " + call.name(), x.where(), 14);
            Due.is("its trouble stays behind " + call.name(), x.trouble(), 4);
        }
        x.undo();
        Due.is("no place behind undo", x.where(), -1);
        Due.tell(x, "street fright 10");
        x.street(-1);
        Due.is("no place behind 2", x.where(), -1);
        Due.tell(x, A + "pulled a");
        Due.is("no place behind a good one", x.where(), -1);
        Due.tell(x, "");
        Due.is("place 0", x.where(), 0);
    }
}
