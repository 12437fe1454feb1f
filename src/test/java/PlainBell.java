import java.math.BigInteger;
import java.util.ArrayDeque;
import java.util.ArrayList;
import java.util.Arrays;
import java.util.HashMap;
import java.util.List;
import java.util.Map;
import java.util.Set;
import java.util.TreeMap;
import java.util.TreeSet;

/** The document once more, as plainly as it can be written: no tables, fires walked day by day. */
final class PlainBell {
    static final int NEVER = -2;
    private static final List<String> KINDS = List.of("brick", "thatch", "timber", "stone");
    private static final List<String> DOINGS = List.of("nothing", "douse", "cut", "panic");
    private static final Set<String> RESERVED =
            Set.of("street", "house", "spark", "does", "pulled", "glass", "unknown", "rung", "nobody");

    static final class House {
        String name;
        int kind;
        int cause = NEVER;
        int by;
        int doing;
    }

    record Spark(int from, int to, int days) {
    }

    record Rung(int day, int whom) {
    }

    static final class Told {
        int fright;
        final List<House> houses = new ArrayList<>();
        final List<Spark> sparks = new ArrayList<>();
        final Set<Integer> pulled = new TreeSet<>();
        final List<Integer> glasses = new ArrayList<>();
        final List<Integer> unknown = new ArrayList<>();
        final List<Rung> rungs = new ArrayList<>();
    }

    record Now(Set<Integer> told, Set<Integer> pulled, int day) {
    }

    // ---- the text

    record Token(String text, int place) {
        boolean isWord() {
            return text.matches("[a-z]{1,8}");
        }

        boolean isName() {
            return isWord() && !RESERVED.contains(text);
        }

        boolean isWhole() {
            return text.matches("[0-9]{1,3}");
        }
    }

    static final class Fault extends Exception {
        private static final long serialVersionUID = 1;
        final int number;
        final int place;

        Fault(int number, Token at) {
            this.number = number;
            this.place = at.place;
        }
    }

    static final class Reading {
        private final ArrayDeque<Token> left = new ArrayDeque<>();
        private final Told told = new Told();
        private boolean opened = false;

        Reading(String text) {
            java.util.regex.Matcher m = java.util.regex.Pattern.compile("[a-z]+|[0-9]+|[^ ]", java.util.regex.Pattern.DOTALL)
                    .matcher(text);
            while (m.find()) {
                left.add(new Token(m.group(), m.start()));
            }
            left.add(new Token("", text.length()));
        }

        Told all() throws Fault {
            while (true) {
                line();
                Token t = left.peek();
                if (t.text.isEmpty()) {
                    if (told.houses.isEmpty()) {
                        throw new Fault(6, t);
                    }
                    return told;
                }
                word(";");
            }
        }

        private void word(String w) throws Fault {
            Token t = left.poll();
            if (!t.text.equals(w)) {
                throw new Fault(1, t);
            }
        }

        private int oneOf(List<String> words, int from) throws Fault {
            Token t = left.poll();
            int i = words.indexOf(t.text);
            if (i < from) {
                throw new Fault(1, t);
            }
            return i;
        }

        private int whole(int least, int most) throws Fault {
            Token t = left.poll();
            if (!t.isWhole()) {
                throw new Fault(1, t);
            }
            int n = Integer.parseInt(t.text);
            if (n < least || n > most) {
                throw new Fault(4, t);
            }
            return n;
        }

        private int find(String name) {
            for (int h = 0; h < told.houses.size(); h++) {
                if (told.houses.get(h).name.equals(name)) {
                    return h;
                }
            }
            return -1;
        }

        private int house() throws Fault {
            Token t = left.peek();
            if (!t.isName()) {
                throw new Fault(1, t);
            }
            if (find(t.text) < 0) {
                throw new Fault(2, t);
            }
            return find(left.poll().text);
        }

        private void line() throws Fault {
            Token first = left.poll();
            if (!RESERVED.contains(first.text) || first.text.equals("nobody")) {
                throw new Fault(1, first);
            }
            if (first.text.equals("street")) {
                if (opened) {
                    throw new Fault(3, first);
                }
                opened = true;
                word("fright");
                told.fright = whole(0, 9);
                return;
            }
            if (!opened) {
                throw new Fault(6, first);
            }
            room(first);
            Token at = left.peek();
            switch (first.text) {
                case "house" -> houseLine();
                case "spark" -> sparkLine();
                case "does" -> {
                    House h = told.houses.get(house());
                    if (h.doing != 0) {
                        throw new Fault(3, at);
                    }
                    h.doing = oneOf(DOINGS, 1);
                }
                case "pulled" -> {
                    if (!told.pulled.add(house())) {
                        throw new Fault(3, at);
                    }
                }
                case "glass" -> {
                    word("day");
                    int last = told.glasses.isEmpty() ? -1 : told.glasses.get(told.glasses.size() - 1);
                    told.glasses.add(whole(last + 1, 30));
                }
                case "unknown" -> {
                    int h = house();
                    if (told.unknown.contains(h)) {
                        throw new Fault(3, at);
                    }
                    told.unknown.add(h);
                }
                default -> {
                    word("day");
                    int day = whole(0, 30);
                    if (left.peek().text.equals("nobody")) {
                        left.poll();
                        told.rungs.add(new Rung(day, NEVER));
                    } else {
                        told.rungs.add(new Rung(day, house()));
                    }
                }
            }
        }

        private void room(Token first) throws Fault {
            boolean full = switch (first.text) {
                case "house" -> told.houses.size() == 6;
                case "spark" -> told.sparks.size() == 9;
                case "glass" -> told.glasses.size() == 4;
                case "unknown" -> told.unknown.size() == 2;
                case "rung" -> told.rungs.size() == 4;
                default -> false;
            };
            if (full) {
                throw new Fault(5, first);
            }
        }

        private void houseLine() throws Fault {
            Token t = left.poll();
            if (!t.isName()) {
                throw new Fault(1, t);
            }
            if (find(t.text) >= 0) {
                throw new Fault(3, t);
            }
            House h = new House();
            h.name = t.text;
            h.kind = oneOf(KINDS, 0);
            if (oneOf(List.of("calm", "day"), 0) == 1) {
                h.cause = whole(0, 60);
                word("by");
                h.by = whole(0, 100);
            }
            told.houses.add(h);
        }

        private void sparkLine() throws Fault {
            int from = house();
            Token at = left.peek();
            int to = house();
            for (Spark s : told.sparks) {
                if (s.from == from && s.to == to) {
                    throw new Fault(3, at);
                }
            }
            if (from == to) {
                throw new Fault(3, at);
            }
            word("days");
            told.sparks.add(new Spark(from, to, whole(0, 9)));
        }
    }

    // ---- fires

    private Told street = new Told();
    private Now now = new Now(Set.of(), Set.of(), 0);
    private final List<Now> acts = new ArrayList<>();
    private final List<Now> images = new ArrayList<>();
    private final StringBuilder tape = new StringBuilder();
    private int fault = 0;
    private int place = -1;
    int trouble = 0;

    private int houses() {
        return street.houses.size();
    }

    private int cause(int h, Set<Integer> told) {
        House x = street.houses.get(h);
        if (x.cause == NEVER || !told.contains(h)) {
            return x.cause;
        }
        return switch (x.doing) {
            case 1 -> NEVER;
            case 3 -> Math.max(0, x.cause - 1);
            default -> x.cause;
        };
    }

    private int[] causes(Set<Integer> told) {
        int[] own = new int[houses()];
        for (int h = 0; h < own.length; h++) {
            own[h] = cause(h, told);
        }
        return own;
    }

    private boolean isCut(int h, Set<Integer> told) {
        return told.contains(h) && street.houses.get(h).doing == 2;
    }

    /** Days of a spark as its target's kind has it; NEVER. */
    private int lag(Spark s) {
        return switch (street.houses.get(s.to).kind) {
            case 0 -> s.days + 1;
            case 1 -> Math.max(0, s.days - 1);
            case 2 -> s.days;
            default -> NEVER;
        };
    }

    /** Day by day: who has a cause, or is reached by a spark of one that burns, burns. */
    private int[] fire(int[] own, Set<Integer> told, Spark without) {
        int[] burn = new int[houses()];
        Arrays.fill(burn, NEVER);
        for (int day = 0; day <= 200; day++) {
            boolean more = true;
            while (more) {
                more = false;
                for (int h = 0; h < burn.length; h++) {
                    if (burn[h] == NEVER && (own[h] == day || reached(h, day, burn, told, without))) {
                        burn[h] = day;
                        more = true;
                    }
                }
            }
        }
        return burn;
    }

    private boolean reached(int h, int day, int[] burn, Set<Integer> told, Spark without) {
        for (Spark s : street.sparks) {
            if (s != without && s.to == h && burn[s.from] != NEVER && !isCut(s.from, told) && lag(s) != NEVER
                    && burn[s.from] + lag(s) == day) {
                return true;
            }
        }
        return false;
    }

    /** A walk day by day is dear, so what was walked once is kept till the next street. */
    private final Map<Set<Integer>, int[]> walked = new HashMap<>();

    private int[] burn(Set<Integer> told) {
        return walked.computeIfAbsent(told, t -> fire(causes(t), t, null));
    }

    private static Set<Integer> with(Set<Integer> told, int h) {
        Set<Integer> more = new TreeSet<>(told);
        more.add(h);
        return more;
    }

    private static int nextIn(int[] burn, Set<Integer> pulled, int day) {
        int best = NEVER;
        for (int h = 0; h < burn.length; h++) {
            if (!pulled.contains(h) && burn[h] != NEVER && burn[h] > day && (best == NEVER || burn[h] < burn[best])) {
                best = h;
            }
        }
        return best;
    }

    private static int bits(int[] burn, int day) {
        int bits = 0;
        for (int h = 0; h < burn.length; h++) {
            if (burn[h] != NEVER && burn[h] <= day) {
                bits |= 1 << h;
            }
        }
        return bits;
    }

    private static int ever(int[] burn) {
        return Integer.bitCount(bits(burn, 100000));
    }

    private Set<Integer> agreeing(Set<Integer> told, Set<Integer> pulled, int day) {
        Set<Integer> who = new TreeSet<>();
        for (int h = 0; h < houses(); h++) {
            int b = burn(told)[h];
            Set<Integer> then = b != NEVER && b <= day ? told : with(told, h);
            if (nextIn(burn(then), pulled, day) == h) {
                who.add(h);
            }
        }
        return who;
    }

    private static int asBits(Set<Integer> set) {
        int bits = 0;
        for (int h : set) {
            bits |= 1 << h;
        }
        return bits;
    }

    private static Set<Integer> asSet(int bits) {
        Set<Integer> set = new TreeSet<>();
        for (int h = 0; h < 6; h++) {
            if ((bits >> h & 1) == 1) {
                set.add(h);
            }
        }
        return set;
    }

    // ---- refusals

    private int no(int number) {
        trouble = number;
        return -1;
    }

    private boolean good(boolean ok, int number) {
        trouble = ok ? 0 : number;
        return ok;
    }

    private boolean open() {
        return good(houses() > 0, 1);
    }

    private boolean isHouse(int h) {
        return good(h >= 0 && h < houses(), 1);
    }

    private boolean within(int n, int least, int most) {
        return good(n >= least && n <= most, 2);
    }

    private boolean burnsNow(int h) {
        int b = burn(now.told)[h];
        return b != NEVER && b <= now.day;
    }

    // ---- calls

    int feed(int a, int b, int c, int d, int e) {
        if (tape.length() + 20 > 900) {
            return -1;
        }
        for (int n : new int[] {a, b, c, d, e}) {
            for (int i = 3; i >= 0; i--) {
                tape.append((char) (n >>> 8 * i & 255));
            }
        }
        return tape.length();
    }

    int street(int n) {
        if (!within(n, 0, tape.length())) {
            return -1;
        }
        String text = tape.substring(0, n);
        tape.setLength(0);
        try {
            street = new Reading(text).all();
        } catch (Fault f) {
            fault = f.number;
            place = f.place;
            return no(4);
        }
        walked.clear();
        fault = 0;
        now = new Now(Set.of(), street.pulled, 0);
        acts.clear();
        images.clear();
        return houses();
    }

    int fault() {
        return fault;
    }

    int where() {
        return trouble == 4 ? place : -1;
    }

    int house(int h, int what) {
        if (!isHouse(h)) {
            return -1;
        }
        House x = street.houses.get(h);
        return switch (what) {
            case 0 -> x.kind;
            case 1 -> cause(h, now.told);
            case 2 -> x.by;
            case 3 -> x.doing;
            case 4 -> now.told.contains(h) ? 1 : 0;
            case 5 -> now.pulled.contains(h) ? 1 : 0;
            default -> no(1);
        };
    }

    int spark(int h, int other) {
        if (!isHouse(h) || !isHouse(other) || !good(h != other, 1)) {
            return -1;
        }
        for (Spark s : street.sparks) {
            if (s.from == h && s.to == other && !isCut(h, now.told)) {
                return lag(s);
            }
        }
        return NEVER;
    }

    int burns(int h) {
        return isHouse(h) ? burn(now.told)[h] : -1;
    }

    int litBy(int h) {
        if (!isHouse(h)) {
            return -1;
        }
        int[] burn = burn(now.told);
        if (burn[h] == NEVER || burn[h] == cause(h, now.told)) {
            return NEVER;
        }
        int best = NEVER;
        for (Spark s : street.sparks) {
            if (s.to == h && burn[s.from] != NEVER && !isCut(s.from, now.told) && burn[s.from] + lag(s) == burn[h]
                    && (best == NEVER || s.from < best)) {
                best = s.from;
            }
        }
        return best;
    }

    int burnt(int n) {
        return open() && within(n, 0, 90) ? bits(burn(now.told), n) : -1;
    }

    int lastDay() {
        return open() ? Arrays.stream(burn(now.told)).max().getAsInt() : -1;
    }

    int next(int day) {
        return open() && within(day, 0, 90) ? nextIn(burn(now.told), now.pulled, day) : -1;
    }

    int agrees(int day) {
        return open() && within(day, now.day, 90) ? asBits(agreeing(now.told, now.pulled, day)) : -1;
    }

    int burnsIf(int h, int told) {
        return isHouse(h) && isHouse(told) && good(!burnsNow(told), 5) ? burn(with(now.told, told))[h] : -1;
    }

    int saves(int told) {
        return isHouse(told) && good(!burnsNow(told), 5)
                ? ever(burn(now.told)) - ever(burn(with(now.told, told))) + 100 : -1;
    }

    int bestTold() {
        if (!open()) {
            return -1;
        }
        int best = NEVER;
        int fewest = ever(burn(now.told));
        for (int h = houses() - 1; h >= 0; h--) {
            int then = burnsNow(h) ? ever(burn(now.told)) : ever(burn(with(now.told, h)));
            if (then <= fewest && then < ever(burn(now.told))) {
                fewest = then;
                best = h;
            }
        }
        return best;
    }

    int dumbDay() {
        if (!open()) {
            return -1;
        }
        for (int day = now.day; day <= 90; day++) {
            if (agreeing(now.told, now.pulled, day).isEmpty() && nextIn(burn(now.told), now.pulled, day) != NEVER) {
                return day;
            }
        }
        return NEVER;
    }

    // ---- ways

    private record Way(List<Integer> rings, Set<Integer> told) {
    }

    private List<Way> allWays() {
        List<Way> all = List.of(new Way(List.of(), now.told));
        for (int day : street.glasses) {
            if (day >= now.day) {
                List<Way> more = new ArrayList<>();
                for (Way w : all) {
                    Set<Integer> who = agreeing(w.told, now.pulled, day);
                    for (int h : who.isEmpty() ? Set.of(NEVER) : who) {
                        List<Integer> rings = new ArrayList<>(w.rings);
                        rings.add(h);
                        more.add(new Way(rings, h == NEVER ? w.told : with(w.told, h)));
                    }
                }
                all = more;
            }
        }
        return all;
    }

    private int burntBy(Way w) {
        return Integer.bitCount(bits(burn(w.told), 60));
    }

    int ways() {
        return open() ? allWays().size() : -1;
    }

    int wayAt(int i, int k) {
        if (!open() || !good(i >= 0 && i < allWays().size(), 1)) {
            return -1;
        }
        List<Integer> rings = allWays().get(i).rings;
        return good(k >= 0 && k < rings.size(), 1) ? rings.get(k) : -1;
    }

    int bestWay() {
        if (!open()) {
            return -1;
        }
        List<Integer> burnt = new ArrayList<>();
        for (Way w : allWays()) {
            burnt.add(burntBy(w));
        }
        return burnt.indexOf(java.util.Collections.min(burnt));
    }

    int wayBurnt(int i) {
        return open() && good(i >= 0 && i < allWays().size(), 1) ? burntBy(allWays().get(i)) : -1;
    }

    int couldRing() {
        if (!open()) {
            return -1;
        }
        Set<Integer> who = new TreeSet<>();
        for (Way w : allWays()) {
            who.addAll(w.rings);
        }
        who.remove(NEVER);
        return asBits(who);
    }

    // ---- safe

    int safe(int n) {
        if (!open() || !within(n, 0, 90)) {
            return -1;
        }
        int already = bits(burn(now.told), now.day);
        for (int count = 0; count <= houses(); count++) {
            for (int set = 0; set < 1 << houses(); set++) {
                Set<Integer> told = new TreeSet<>(now.told);
                told.addAll(asSet(set));
                if (Integer.bitCount(set) == count && (set & already) == 0 && (bits(burn(told), n) | already) == already) {
                    return set;
                }
            }
        }
        return NEVER;
    }

    int bestCut() {
        if (!open()) {
            return -1;
        }
        int best = NEVER;
        int fewest = ever(burn(now.told));
        for (int s = 0; s < street.sparks.size(); s++) {
            int then = ever(fire(causes(now.told), now.told, street.sparks.get(s)));
            if (then < fewest) {
                fewest = then;
                best = s;
            }
        }
        return best;
    }

    // ---- unknown

    private record Fit(List<Integer> days, int[] burn) {
    }

    private List<Fit> allFits() {
        List<List<Integer>> rows = List.of(List.of());
        for (int u = 0; u < street.unknown.size(); u++) {
            List<List<Integer>> more = new ArrayList<>();
            for (List<Integer> row : rows) {
                for (int day : new int[] {0, 1, 2, 3, 4, 5, 6, 7, 8, 9, NEVER}) {
                    List<Integer> longer = new ArrayList<>(row);
                    longer.add(day);
                    more.add(longer);
                }
            }
            rows = more;
        }
        List<Fit> fits = new ArrayList<>();
        for (List<Integer> row : rows) {
            int[] own = causes(Set.of());
            for (int u = 0; u < row.size(); u++) {
                own[street.unknown.get(u)] = row.get(u);
            }
            int[] burn = fire(own, Set.of(), null);
            boolean so = true;
            for (Rung r : street.rungs) {
                so &= nextIn(burn, street.pulled, r.day) == r.whom;
            }
            if (so) {
                fits.add(new Fit(row, burn));
            }
        }
        return fits;
    }

    int fits() {
        return open() ? allFits().size() : -1;
    }

    int fitAt(int i, int k) {
        return open() && good(i >= 0 && i < allFits().size() && k >= 0 && k < street.unknown.size(), 1)
                ? allFits().get(i).days.get(k) : -1;
    }

    int nextBy(int h, int day) {
        if (!isHouse(h) || !within(day, 0, 90)) {
            return -1;
        }
        int count = 0;
        for (Fit f : allFits()) {
            if (nextIn(f.burn, street.pulled, day) == h) {
                count++;
            }
        }
        return count;
    }

    private int[] bestTry() {
        List<Fit> fits = allFits();
        int[] best = {NEVER, NEVER};
        for (int day = 20; day >= 0 && !fits.isEmpty(); day--) {
            Map<Integer, Integer> left = new TreeMap<>();
            for (Fit f : fits) {
                left.merge(nextIn(f.burn, street.pulled, day), 1, Integer::sum);
            }
            int most = java.util.Collections.max(left.values());
            if (best[0] == NEVER || most <= best[1]) {
                best = new int[] {day, most};
            }
        }
        return best;
    }

    int tryDay() {
        return open() ? bestTry()[0] : -1;
    }

    int tryLeaves() {
        return open() ? bestTry()[1] : -1;
    }

    int judge() {
        if (!open()) {
            return -1;
        }
        for (int r = 0; r < street.rungs.size(); r++) {
            if (nextIn(burn(Set.of()), street.pulled, street.rungs.get(r).day) != street.rungs.get(r).whom) {
                return r;
            }
        }
        return NEVER;
    }

    // ---- two

    private int[] both(boolean one, boolean other) {
        int f = street.fright;
        if (one && other) {
            return new int[] {1 - f, 1 - f};
        }
        if (one) {
            return new int[] {4 - f, 3};
        }
        return other ? new int[] {3, 4 - f} : new int[] {0, 0};
    }

    int rings(boolean one, boolean other, boolean ofOther) {
        return open() ? both(one, other)[ofOther ? 1 : 0] : -100;
    }

    private List<Integer> allRests() {
        List<Integer> rests = new ArrayList<>();
        for (int pair : new int[] {0, 1, 10, 11}) {
            boolean one = pair >= 10;
            boolean other = pair % 10 == 1;
            if (both(!one, other)[0] <= both(one, other)[0] && both(one, !other)[1] <= both(one, other)[1]) {
                rests.add(pair);
            }
        }
        return rests;
    }

    int rests() {
        return open() ? allRests().size() : -1;
    }

    int rest() {
        return !open() ? -1 : allRests().isEmpty() ? NEVER : allRests().get(0);
    }

    // ---- chance

    /** The sum over all cases of what a case counts, by the hundred-based weight of each. */
    private long chance(int h, int n, int what, boolean lower) {
        BigInteger sum = BigInteger.ZERO;
        for (int come = 0; come < 1 << houses(); come++) {
            BigInteger weight = BigInteger.ONE;
            int[] own = causes(now.told);
            for (int x = 0; x < own.length; x++) {
                boolean comes = (come >> x & 1) == 1;
                int by = own[x] == NEVER ? 0 : street.houses.get(x).by;
                weight = weight.multiply(BigInteger.valueOf(comes ? by : 100 - by));
                own[x] = comes ? own[x] : NEVER;
            }
            if (weight.signum() > 0) {
                int bits = bits(fire(own, now.told, null), n);
                int counts = what == 0 ? bits >> h & 1 : what == 1 ? (bits == 0 ? 1 : 0) : Integer.bitCount(bits);
                sum = sum.add(weight.multiply(BigInteger.valueOf(counts)));
            }
        }
        BigInteger whole = BigInteger.valueOf(100).pow(houses());
        return (lower ? whole : sum).divide(sum.gcd(whole)).longValueExact();
    }

    long odds(int h, int n, boolean lower) {
        return isHouse(h) && within(n, 0, 90) ? chance(h, n, 0, lower) : -1;
    }

    long quiet(int n, boolean lower) {
        return open() && within(n, 0, 90) ? chance(0, n, 1, lower) : -1;
    }

    long mean(int n, boolean lower) {
        return open() && within(n, 0, 90) ? chance(0, n, 2, lower) : -1;
    }

    private List<Integer> allYears(int seed, int n) {
        List<Integer> years = new ArrayList<>();
        long s = seed;
        for (int y = 0; y < n; y++) {
            int[] own = causes(now.told);
            for (int h = 0; h < own.length; h++) {
                if (own[h] != NEVER) {
                    s = (75 * s + 74) % 65537;
                    if (s % 100 >= street.houses.get(h).by) {
                        own[h] = NEVER;
                    }
                }
            }
            years.add(bits(fire(own, now.told, null), 90));
        }
        return years;
    }

    int years(int h, int seed, int n) {
        if (!isHouse(h) || !within(seed, 0, 65536) || !within(n, 0, 60)) {
            return -1;
        }
        int count = 0;
        for (int bits : allYears(seed, n)) {
            count += bits >> h & 1;
        }
        return count;
    }

    int worstYear(int seed, int n) {
        if (!open() || !within(seed, 0, 65536) || !within(n, 0, 60)) {
            return -1;
        }
        int most = 0;
        for (int bits : allYears(seed, n)) {
            most = Math.max(most, Integer.bitCount(bits));
        }
        return most;
    }

    // ---- acts

    private void act(Now then) {
        acts.add(now);
        if (acts.size() > 16) {
            acts.remove(0);
        }
        now = then;
    }

    int tell(int h) {
        if (!isHouse(h) || !good(!now.told.contains(h) && !burnsNow(h), 5)) {
            return -1;
        }
        act(new Now(with(now.told, h), now.pulled, now.day));
        return burns(h);
    }

    boolean pull(int h) {
        if (!isHouse(h) || !good(!now.pulled.contains(h), 5)) {
            return false;
        }
        act(new Now(now.told, with(now.pulled, h), now.day));
        return true;
    }

    boolean mend(int h) {
        if (!isHouse(h) || !good(now.pulled.contains(h), 5)) {
            return false;
        }
        Set<Integer> less = new TreeSet<>(now.pulled);
        less.remove(h);
        act(new Now(now.told, less, now.day));
        return true;
    }

    int day() {
        if (!open() || !good(now.day < 90, 3)) {
            return -1;
        }
        act(new Now(now.told, now.pulled, now.day + 1));
        int bits = 0;
        for (int h = 0; h < houses(); h++) {
            if (burn(now.told)[h] == now.day) {
                bits |= 1 << h;
            }
        }
        return bits;
    }

    boolean undo() {
        if (!good(!acts.isEmpty(), 6)) {
            return false;
        }
        now = acts.remove(acts.size() - 1);
        return true;
    }

    int image() {
        if (!open() || !good(images.size() < 3, 3)) {
            return -1;
        }
        images.add(now);
        return images.size() - 1;
    }

    boolean back(int image) {
        if (!good(image >= 0 && image < images.size(), 1)) {
            return false;
        }
        now = images.get(image);
        acts.clear();
        return true;
    }

    /** As Due.led: -99 where it throws. */
    int led(int i) {
        List<Integer> never = new ArrayList<>();
        for (int h = 0; h < houses(); h++) {
            if (burn(now.told)[h] == NEVER) {
                never.add(h);
            }
        }
        return i >= 0 && i < never.size() ? never.get(i) : -99;
    }

    int size(int what) {
        return switch (what) {
            case 0 -> street.fright;
            case 1 -> houses();
            case 2 -> street.sparks.size();
            case 3 -> (int) street.houses.stream().filter(h -> h.doing != 0).count();
            case 4 -> street.pulled.size();
            case 5 -> street.glasses.size();
            case 6 -> street.unknown.size();
            case 7 -> street.rungs.size();
            case 8 -> now.day;
            case 9 -> acts.size();
            case 10 -> images.size();
            case 11 -> tape.length();
            default -> -1;
        };
    }
}
