import java.util.Random;

/** Any arguments in any state: nothing is thrown but what led may throw, and refusals tell a number from 1 to 6. */
public final class RoughTest {
    private static final int[] NUMBERS = {-1, 0, 1, 2, 5, 6, 7, 30, 60, 61, 89, 90, 91, 899, 900, 65536, 65537,
        Integer.MIN_VALUE, Integer.MAX_VALUE, 31, 32, 33, 63, 64};
    private static final String[] TEXTS = {
        "street fright 9;house a thatch day 4 by 99;house b thatch day 4 by 1;house c brick calm;house d stone day 60 by 100;"
            + "house e timber day 5 by 50;house f thatch calm;spark a b days 0;spark b a days 0;spark b c days 9;"
            + "spark c f days 0;spark e f days 1;spark f e days 2;spark a d days 3;spark d a days 4;spark c e days 9;"
            + "does a panic;does b panic;does c cut;does d douse;does e panic;does f cut;glass day 0;glass day 1;"
            + "glass day 2;glass day 3;unknown b;unknown e;rung day 0 a;rung day 4 nobody",
        "street fright 0;house a stone calm",
        "street fright 4;house a timber day 0 by 0;house b brick day 60 by 100;spark b a days 9;pulled a;pulled b;glass day 30"};

    private final Random random = new Random(7);

    private RoughTest() {
    }

    public static void main(String[] args) {
        RoughTest test = new RoughTest();
        for (int run = 0; run < 2000; run++) {
            NextBell x = new NextBell();
            for (int call = 0; call < 500; call++) {
                if (test.random.nextInt(60) == 0) {
                    Due.tell(x, TEXTS[test.random.nextInt(TEXTS.length)]);
                }
                test.call(x);
                if (x.trouble() < 0 || x.trouble() > 6) {
                    Due.is("trouble", x.trouble(), 0);
                }
            }
        }
        Due.end("RoughTest");
    }

    private int any() {
        return random.nextInt(3) == 0 ? NUMBERS[random.nextInt(NUMBERS.length)] : random.nextInt(8);
    }

    private void call(NextBell x) {
        int a = any();
        int b = any();
        int c = any();
        boolean p = random.nextBoolean();
        switch (random.nextInt(47)) {
            case 0 -> x.feed(a, b, c, a, random.nextInt());
            case 1 -> x.street(a);
            case 2 -> x.fault();
            case 3 -> x.where();
            case 4 -> x.house(a, b);
            case 5 -> x.spark(a, b);
            case 6 -> x.burns(a);
            case 7 -> x.litBy(a);
            case 8 -> x.burnt(a);
            case 9 -> x.lastDay();
            case 10 -> x.next(a);
            case 11 -> x.agrees(a);
            case 12 -> x.burnsIf(a, b);
            case 13 -> x.saves(a);
            case 14 -> x.bestTold();
            case 15 -> x.dumbDay();
            case 16 -> x.ways();
            case 17 -> x.wayAt(a, b);
            case 18 -> x.bestWay();
            case 19 -> x.wayBurnt(a);
            case 20 -> x.couldRing();
            case 21 -> x.safe(a);
            case 22 -> x.bestCut();
            case 23 -> x.fits();
            case 24 -> x.fitAt(a, b);
            case 25 -> x.nextBy(a, b);
            case 26 -> x.tryDay();
            case 27 -> x.tryLeaves();
            case 28 -> x.judge();
            case 29 -> x.rings(p, a > 3, b > 3);
            case 30 -> x.rests();
            case 31 -> x.rest();
            case 32 -> x.odds(a, b, p);
            case 33 -> x.quiet(a, p);
            case 34 -> x.mean(a, p);
            case 35 -> x.years(a, b, c);
            case 36 -> x.worstYear(a, b);
            case 37 -> x.tell(a);
            case 38 -> x.pull(a);
            case 39 -> x.mend(a);
            case 40 -> x.day();
            case 41 -> x.undo();
            case 42 -> x.image();
            case 43 -> x.back(a);
            case 44 -> Due.led(x, a);
            case 45 -> x.size(a);
            default -> x.trouble();
        }
    }
}
