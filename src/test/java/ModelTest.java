import java.util.ArrayList;
import java.util.List;
import java.util.Random;

/** Random streets, good and spoilt, and random calls: each answer and its trouble is the plain model's. */
public final class ModelTest {
    private static final String[] KINDS = {"brick", "thatch", "timber", "stone"};
    private static final String[] DOINGS = {"douse", "cut", "panic"};
    private static final String[] PIECES = {"street", "house", "spark", "does", "pulled", "glass", "unknown", "rung",
        "nobody", "day", "days", "by", "calm", "fright", "brick", "a", "b", "abcdefgh", "abcdefghi", "7", "60", "061", "100",
        "101", "1000", ";", ";;", "A", ",", "\u00e9", "\u0000", "\n"};

    private final Random random;
    private final NextBell x = new NextBell();
    private final PlainBell y = new PlainBell();
    private final StringBuilder log = new StringBuilder();

    private ModelTest(long seed) {
        random = new Random(seed);
    }

    public static void main(String[] args) {
        for (int run = 0; run < 400 && Due.wrong() < 20; run++) {
            new ModelTest(run).calls();
        }
        for (int run = 0; run < 400 && Due.wrong() < 20; run++) {
            new ModelTest(1000000 + run).texts();
        }
        Due.end("ModelTest");
    }

    private int below(int n) {
        return random.nextInt(n);
    }

    // ---- texts

    private String text(boolean busy) {
        List<String> lines = new ArrayList<>();
        int houses = 1 + below(6);
        int spread = busy ? 4 + below(12) : 61;
        for (int h = 0; h < houses; h++) {
            String house = "house " + name(h) + " " + KINDS[below(4) == 3 ? 3 : below(3)];
            lines.add(house + (below(4) == 0 ? " calm" : " day " + below(spread) + " by " + below(101)));
        }
        for (int s = below(10); s > 0; s--) {
            int from = below(houses);
            int to = below(houses);
            String start = "spark " + name(from) + " " + name(to) + " ";
            if (from != to && lines.stream().noneMatch(l -> l.startsWith(start))) {
                lines.add(start + "days " + below(busy ? 5 : 10));
            }
        }
        int panics = below(3);
        for (int h = 0; h < houses; h++) {
            if (below(4) > 0) {
                lines.add("does " + name(h) + " " + (panics == 0 ? "panic" : DOINGS[below(3)]));
            }
            if (below(6) == 0) {
                lines.add("pulled " + name(h));
            }
        }
        int day = 0;
        for (int g = below(5); g > 0 && day <= 30; g--) {
            lines.add("glass day " + day);
            day += 1 + below(busy ? 4 : 12);
        }
        int first = below(houses);
        for (int u = 0; u < below(3) && u < houses; u++) {
            lines.add("unknown " + name((first + u) % houses));
        }
        for (int r = below(3); r > 0; r--) {
            lines.add("rung day " + below(busy ? 8 : 31) + " " + (below(5) == 0 ? "nobody" : name(below(houses))));
        }
        return joined(lines);
    }

    private String joined(List<String> lines) {
        // Lines that name no house may stand anywhere behind the first.
        StringBuilder all = new StringBuilder("street fright " + below(10));
        for (String line : lines) {
            all.append(below(8) == 0 ? " ; " : ";").append(line);
        }
        return all.toString();
    }

    private String name(int h) {
        return new String[] {"a", "brick", "cc", "day", "houses", "stonewal"}[h];
    }

    private String spoilt(String text) {
        List<String> tokens = new ArrayList<>(List.of(text.split("(?<=[ ;])|(?=[ ;])")));
        for (int n = 1 + below(2); n > 0; n--) {
            int i = below(tokens.size());
            switch (below(7)) {
                case 0 -> tokens.remove(i);
                case 1 -> tokens.add(i, tokens.get(below(tokens.size())));
                case 2 -> tokens.set(i, tokens.get(below(tokens.size())));
                case 3 -> tokens.set(i, PIECES[below(PIECES.length)]);
                case 4 -> tokens.add(i, PIECES[below(PIECES.length)]);
                case 5 -> tokens = new ArrayList<>(tokens.subList(0, i + 1));
                default -> tokens.addAll(i, tokens.subList(i, Math.min(tokens.size(), i + 8)).stream().toList());
            }
        }
        String whole = String.join("", tokens);
        return whole.length() > 900 ? whole.substring(0, 900) : whole;
    }

    private void tell(String text) {
        String cut = text.length() > 900 ? text.substring(0, 900) : text;
        String padded = cut + " ".repeat((20 - cut.length() % 20) % 20);
        for (int i = 0; i < padded.length(); i += 20) {
            int[] f = new int[5];
            for (int k = 0; k < 20; k++) {
                f[k / 4] = f[k / 4] << 8 | padded.charAt(i + k);
            }
            same("feed", x.feed(f[0], f[1], f[2], f[3], f[4]), y.feed(f[0], f[1], f[2], f[3], f[4]));
        }
        log.append("\n  street of '").append(cut).append("'");
        int n = below(30) == 0 ? below(padded.length() + 2) : cut.length();
        same("street " + n, x.street(n), y.street(n));
        same("fault", x.fault(), y.fault());
        same("where", x.where(), y.where());
    }

    private void texts() {
        for (int i = 0; i < 40; i++) {
            tell(spoilt(text(true)));
            same("size", x.size(i % 13 - 1), y.size(i % 13 - 1));
        }
    }

    // ---- calls

    private void calls() {
        if (below(5) == 0) {
            some(8);
        }
        for (int s = 0; s < 2; s++) {
            tell(text(below(3) > 0));
            some(100);
            if (below(3) == 0) {
                tell(spoilt(text(true)));
            }
            some(30);
        }
    }

    private void some(int n) {
        int days = below(3);
        for (int i = 0; i < n && Due.wrong() < 20; i++) {
            int which = below(60);
            if (which >= 45) {
                which = days == 0 ? 37 : 34 + below(4);
            }
            one(which, below(8) - 1, below(8) - 1);
        }
    }

    private int number(int most) {
        int sort = below(12);
        if (sort == 0) {
            return most + 1;
        }
        if (sort == 1) {
            return new int[] {-1, Integer.MIN_VALUE, Integer.MAX_VALUE, most}[below(4)];
        }
        return sort < 8 ? below(Math.min(most, 20) + 1) : below(most + 1);
    }

    private void one(int which, int h, int g) {
        int n = number(90);
        boolean p = random.nextBoolean();
        boolean q = random.nextBoolean();
        boolean r = random.nextBoolean();
        int seed = number(65536);
        int years = number(60);
        String call = which + " with " + h + " " + g + " " + n + " " + p + " " + q + " " + r + " " + seed + " " + years;
        log.append("\n  ").append(call);
        switch (which) {
            case 0 -> same("house " + call, x.house(h, g), y.house(h, g));
            case 1 -> same("spark " + call, x.spark(h, g), y.spark(h, g));
            case 2 -> same("burns " + call, x.burns(h), y.burns(h));
            case 3 -> same("litBy " + call, x.litBy(h), y.litBy(h));
            case 4 -> same("burnt " + call, x.burnt(n), y.burnt(n));
            case 5 -> same("lastDay", x.lastDay(), y.lastDay());
            case 6 -> same("next " + call, x.next(n), y.next(n));
            case 7 -> same("agrees " + call, x.agrees(n), y.agrees(n));
            case 8 -> same("burnsIf " + call, x.burnsIf(h, g), y.burnsIf(h, g));
            case 9 -> same("saves " + call, x.saves(h), y.saves(h));
            case 10 -> same("bestTold", x.bestTold(), y.bestTold());
            case 11 -> same("dumbDay", x.dumbDay(), y.dumbDay());
            case 12 -> same("ways", x.ways(), y.ways());
            case 13 -> same("wayAt " + call, x.wayAt(g, h), y.wayAt(g, h));
            case 14 -> same("wayAt " + call, x.wayAt(n, h), y.wayAt(n, h));
            case 15 -> same("bestWay", x.bestWay(), y.bestWay());
            case 16 -> same("wayBurnt " + call, x.wayBurnt(h), y.wayBurnt(h));
            case 17 -> same("couldRing", x.couldRing(), y.couldRing());
            case 18 -> same("safe " + call, x.safe(n), y.safe(n));
            case 19 -> same("bestCut", x.bestCut(), y.bestCut());
            case 20 -> same("fits", x.fits(), y.fits());
            case 21 -> same("fitAt " + call, x.fitAt(n, g), y.fitAt(n, g));
            case 22 -> same("nextBy " + call, x.nextBy(h, n), y.nextBy(h, n));
            case 23 -> same("tryDay", x.tryDay(), y.tryDay());
            case 24 -> same("tryLeaves", x.tryLeaves(), y.tryLeaves());
            case 25 -> same("judge", x.judge(), y.judge());
            case 26 -> same("rings " + call, x.rings(p, q, r), y.rings(p, q, r));
            case 27 -> same("rests", x.rests(), y.rests());
            case 28 -> same("rest", x.rest(), y.rest());
            case 29 -> same("odds " + call, x.odds(h, n, p), y.odds(h, n, p));
            case 30 -> same("quiet " + call, x.quiet(n, p), y.quiet(n, p));
            case 31 -> same("mean " + call, x.mean(n, p), y.mean(n, p));
            case 32 -> same("years " + call, x.years(h, seed, years), y.years(h, seed, years));
            case 33 -> same("worstYear " + call, x.worstYear(seed, years), y.worstYear(seed, years));
            case 34 -> same("tell " + call, x.tell(h), y.tell(h));
            case 35 -> same("pull " + call, x.pull(h) ? 1 : 0, y.pull(h) ? 1 : 0);
            case 36 -> same("mend " + call, x.mend(h) ? 1 : 0, y.mend(h) ? 1 : 0);
            case 37 -> same("day", x.day(), y.day());
            case 38 -> same("undo", x.undo() ? 1 : 0, y.undo() ? 1 : 0);
            case 39 -> same("image", x.image(), y.image());
            case 40 -> same("back " + call, x.back(h) ? 1 : 0, y.back(h) ? 1 : 0);
            case 41 -> same("led " + call, Due.led(x, h), y.led(h));
            case 42 -> same("size " + call, x.size(h + g), y.size(h + g));
            case 43 -> same("feed " + call, x.feed(h, g, n, seed, years), y.feed(h, g, n, seed, years));
            default -> same("street " + call, x.street(n), y.street(n));
        }
    }

    private void same(String what, long got, long want) {
        int before = Due.wrong();
        Due.is(what, got, want);
        Due.is("trouble behind " + what, x.trouble(), y.trouble);
        if (Due.wrong() > before) {
            System.out.println("behind:" + log);
        }
    }
}
