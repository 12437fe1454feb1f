import java.util.NoSuchElementException;

/** A street of houses, told as a text, and the bell that rings for the one whose house burns next. */
public final class NextBell {
    public static final int NONE = -1;

    private static final int NEVER = -2;
    /** Later than any fire: a cause on day 60 and five sparks of ten days each make 110. */
    private static final int FAR = 1000;

    private static final int TAPE = 900;
    private static final int HOUSES = 6;
    private static final int SPARKS = 9;
    private static final int GLASSES = 4;
    private static final int UNKNOWNS = 2;
    private static final int RUNGS = 4;
    private static final int SETS = 64;
    private static final int LAST_DAY = 90;
    private static final int WAY_DAY = 60;
    private static final int TRY_DAYS = 20;
    private static final int MOST_YEARS = 60;
    private static final int SEEDS = 65537;

    private static final int BRICK = 0;
    private static final int THATCH = 1;
    private static final int TIMBER = 2;
    private static final int STONE = 3;

    private static final int DOUSE = 1;
    private static final int CUT = 2;
    private static final int PANIC = 3;

    private static final int ODDS = 0;
    private static final int QUIET = 1;
    private static final int MEAN = 2;

    private static final int NO_SUCH = 1;
    private static final int NUMBER = 2;
    private static final int NO_ROOM = 3;
    private static final int FAULTY = 4;
    private static final int NOT_SO = 5;
    private static final int NOTHING = 6;

    private Street street = new Street();
    /** The next text is read into this one, so that the street stays when there is a fault. */
    private Street spare = new Street();
    private final Tape tape = new Tape();
    private final Reader reader = new Reader(tape, spare);
    private final Story story = new Story();
    private final Fires fires = new Fires(street);
    private final Ways ways = new Ways(fires);
    private final Guesses guesses = new Guesses(fires);
    private int fault;
    private int trouble;

    public NextBell() {
    }

    // ---- the street

    public int feed(int a, int b, int c, int d, int e) {
        if (tape.length > TAPE - 20) {
            return NONE;
        }
        tape.add(a);
        tape.add(b);
        tape.add(c);
        tape.add(d);
        tape.add(e);
        return tape.length;
    }

    public int street(int n) {
        if (outside(n, 0, tape.length)) {
            return NONE;
        }
        boolean good = reader.read(spare, n);
        tape.length = 0;
        fault = reader.fault;
        if (!good) {
            return refuse(FAULTY);
        }
        Street read = spare;
        spare = street;
        street = read;
        fires.begin(street);
        story.begin(street.wires);
        ways.made = false;
        guesses.made = false;
        return street.houses;
    }

    public int fault() {
        return fault;
    }

    public int where() {
        return trouble == FAULTY ? reader.place : NONE;
    }

    // ---- now

    public int house(int h, int what) {
        if (noHouse(h)) {
            return NONE;
        }
        switch (what) {
            case 0:
                return street.kind[h];
            case 1:
                return street.causeOf(h, story.told);
            case 2:
                return street.by[h];
            case 3:
                return street.doing[h];
            case 4:
                return story.told >> h & 1;
            case 5:
                return story.wires >> h & 1;
            default:
                return refuse(NO_SUCH);
        }
    }

    public int spark(int h, int other) {
        if (noHouse(h) || noHouse(other)) {
            return NONE;
        }
        if (h == other) {
            return refuse(NO_SUCH);
        }
        int lag = street.lagOf(h, other, street.cutBy(story.told));
        return lag >= FAR ? NEVER : lag;
    }

    public int burns(int h) {
        if (noHouse(h)) {
            return NONE;
        }
        return shown(fires.dayOf(story.told, h));
    }

    public int litBy(int h) {
        if (noHouse(h)) {
            return NONE;
        }
        return fires.lighter(story.told, h);
    }

    public int burnt(int n) {
        if (noStreet() || outside(n, 0, LAST_DAY)) {
            return NONE;
        }
        return fires.burntBy(story.told, n);
    }

    public int lastDay() {
        if (noStreet()) {
            return NONE;
        }
        int last = NEVER;
        for (int h = 0; h < street.houses; h++) {
            last = Math.max(last, shown(fires.dayOf(story.told, h)));
        }
        return last;
    }

    // ---- the bell

    public int next(int day) {
        if (noStreet() || outside(day, 0, LAST_DAY)) {
            return NONE;
        }
        return fires.soonest(story.told, story.wires, day);
    }

    public int agrees(int day) {
        if (noStreet() || outside(day, story.now, LAST_DAY)) {
            return NONE;
        }
        return fires.agreeing(story.told, story.wires, day);
    }

    public int burnsIf(int h, int told) {
        if (noHouse(h) || noHouse(told) || burnsAlready(told)) {
            return NONE;
        }
        return shown(fires.dayOf(story.told | 1 << told, h));
    }

    public int saves(int told) {
        if (noHouse(told) || burnsAlready(told)) {
            return NONE;
        }
        return burnEver(story.told) - burnEver(story.told | 1 << told) + 100;
    }

    public int bestTold() {
        if (noStreet()) {
            return NONE;
        }
        int best = NEVER;
        int fewest = burnEver(story.told);
        for (int h = 0; h < street.houses; h++) {
            if (fires.dayOf(story.told, h) > story.now) {
                int burn = burnEver(story.told | 1 << h);
                if (burn < fewest) {
                    fewest = burn;
                    best = h;
                }
            }
        }
        return best;
    }

    public int dumbDay() {
        if (noStreet()) {
            return NONE;
        }
        for (int day = story.now; day <= LAST_DAY; day++) {
            if (fires.soonest(story.told, story.wires, day) != NEVER
                    && fires.agreeing(story.told, story.wires, day) == 0) {
                return day;
            }
        }
        return NEVER;
    }

    // ---- ways

    public int ways() {
        if (noStreet()) {
            return NONE;
        }
        ways.make(story);
        return ways.count;
    }

    public int wayAt(int i, int k) {
        if (noWay(i)) {
            return NONE;
        }
        if (k < 0 || k >= ways.rings) {
            return refuse(NO_SUCH);
        }
        return ways.ringOf(i, k);
    }

    public int bestWay() {
        if (noStreet()) {
            return NONE;
        }
        ways.make(story);
        int best = 0;
        for (int i = 1; i < ways.count; i++) {
            if (ways.burntOf(i) < ways.burntOf(best)) {
                best = i;
            }
        }
        return best;
    }

    public int wayBurnt(int i) {
        if (noWay(i)) {
            return NONE;
        }
        return ways.burntOf(i);
    }

    public int couldRing() {
        if (noStreet()) {
            return NONE;
        }
        ways.make(story);
        return ways.rungFor;
    }

    // ---- safe

    public int safe(int n) {
        if (noStreet() || outside(n, 0, LAST_DAY)) {
            return NONE;
        }
        int already = fires.burntBy(story.told, story.now);
        int best = NEVER;
        int fewest = HOUSES + 1;
        for (int set = 0; set < 1 << street.houses; set++) {
            if ((set & already) == 0 && Integer.bitCount(set) < fewest
                    && (fires.burntBy(story.told | set, n) & ~already) == 0) {
                fewest = Integer.bitCount(set);
                best = set;
            }
        }
        return best;
    }

    public int bestCut() {
        if (noStreet()) {
            return NONE;
        }
        int best = NEVER;
        int fewest = burnEver(story.told);
        for (int s = 0; s < street.sparks; s++) {
            int burn = fires.burnWithout(story.told, s);
            if (burn < fewest) {
                fewest = burn;
                best = s;
            }
        }
        return best;
    }

    // ---- unknown

    public int fits() {
        if (noStreet()) {
            return NONE;
        }
        guesses.make();
        return guesses.count;
    }

    public int fitAt(int i, int k) {
        if (noStreet()) {
            return NONE;
        }
        guesses.make();
        if (i < 0 || i >= guesses.count || k < 0 || k >= street.unknowns) {
            return refuse(NO_SUCH);
        }
        return guesses.guessed(guesses.fitting[i], k);
    }

    public int nextBy(int h, int day) {
        if (noHouse(h) || outside(day, 0, LAST_DAY)) {
            return NONE;
        }
        guesses.make();
        int count = 0;
        for (int i = 0; i < guesses.count; i++) {
            if (guesses.soonest(i, day) == h) {
                count++;
            }
        }
        return count;
    }

    public int tryDay() {
        if (noStreet()) {
            return NONE;
        }
        guesses.make();
        return guesses.bestDay;
    }

    public int tryLeaves() {
        if (noStreet()) {
            return NONE;
        }
        guesses.make();
        return guesses.leaves;
    }

    public int judge() {
        if (noStreet()) {
            return NONE;
        }
        for (int r = 0; r < street.rungs; r++) {
            if (fires.soonest(0, street.wires, street.rungDay[r]) != street.rungFor[r]) {
                return r;
            }
        }
        return NEVER;
    }

    // ---- two

    public int rings(boolean one, boolean other, boolean ofOther) {
        if (noStreet()) {
            return -100;
        }
        return ofOther ? has(other, one) : has(one, other);
    }

    public int rests() {
        if (noStreet()) {
            return NONE;
        }
        int count = 0;
        for (int pair = 0; pair < 4; pair++) {
            if (stays(pair >= 2, pair % 2 == 1)) {
                count++;
            }
        }
        return count;
    }

    public int rest() {
        if (noStreet()) {
            return NONE;
        }
        for (int pair = 0; pair < 4; pair++) {
            if (stays(pair >= 2, pair % 2 == 1)) {
                return pair / 2 * 10 + pair % 2;
            }
        }
        return NEVER;
    }

    // ---- chance

    public long odds(int h, int n, boolean lower) {
        if (noHouse(h) || outside(n, 0, LAST_DAY)) {
            return NONE;
        }
        return overAll(ODDS, h, n, lower);
    }

    public long quiet(int n, boolean lower) {
        if (noStreet() || outside(n, 0, LAST_DAY)) {
            return NONE;
        }
        return overAll(QUIET, 0, n, lower);
    }

    public long mean(int n, boolean lower) {
        if (noStreet() || outside(n, 0, LAST_DAY)) {
            return NONE;
        }
        return overAll(MEAN, 0, n, lower);
    }

    // ---- years by draws

    public int years(int h, int seed, int n) {
        if (noHouse(h) || noYears(seed, n)) {
            return NONE;
        }
        int count = 0;
        fires.seed = seed;
        for (int year = 0; year < n; year++) {
            int come = fires.draw(story.told);
            count += fires.burntIf(come, story.told, LAST_DAY) >> h & 1;
        }
        return count;
    }

    public int worstYear(int seed, int n) {
        if (noStreet() || noYears(seed, n)) {
            return NONE;
        }
        int most = 0;
        fires.seed = seed;
        for (int year = 0; year < n; year++) {
            int come = fires.draw(story.told);
            most = Math.max(most, Integer.bitCount(fires.burntIf(come, story.told, LAST_DAY)));
        }
        return most;
    }

    // ---- acts

    public int tell(int h) {
        if (noHouse(h) || burnsAlready(h)) {
            return NONE;
        }
        if ((story.told >> h & 1) == 1) {
            return refuse(NOT_SO);
        }
        story.keep();
        story.told |= 1 << h;
        return shown(fires.dayOf(story.told, h));
    }

    public boolean pull(int h) {
        return turnWire(h, 1);
    }

    public boolean mend(int h) {
        return turnWire(h, 0);
    }

    public int day() {
        if (noStreet()) {
            return NONE;
        }
        if (story.now >= LAST_DAY) {
            return refuse(NO_ROOM);
        }
        story.keep();
        story.now++;
        return fires.burntBy(story.told, story.now) & ~fires.burntBy(story.told, story.now - 1);
    }

    public boolean undo() {
        boolean undone = story.takeBack();
        trouble = undone ? 0 : NOTHING;
        return undone;
    }

    public int image() {
        if (noStreet()) {
            return NONE;
        }
        int number = story.keepImage();
        return number == NONE ? refuse(NO_ROOM) : number;
    }

    public boolean back(int image) {
        boolean gone = story.goBack(image);
        trouble = gone ? 0 : NO_SUCH;
        return gone;
    }

    // ---- what is told

    public int led(int i) throws NoSuchElementException {
        int left = i;
        for (int h = 0; h < street.houses; h++) {
            if (fires.dayOf(story.told, h) >= FAR) {
                if (left == 0) {
                    return h;
                }
                left--;
            }
        }
        throw new NoSuchElementException("no such house that never burns");
    }

    public int size(int what) {
        switch (what) {
            case 0:
                return street.fright;
            case 1:
                return street.houses;
            case 2:
                return street.sparks;
            case 3:
                return street.doers();
            case 4:
                return Integer.bitCount(street.wires);
            case 5:
                return street.glasses;
            case 6:
                return street.unknowns;
            case 7:
                return street.rungs;
            case 8:
                return story.now;
            case 9:
                return story.acts;
            case 10:
                return story.images;
            case 11:
                return tape.length;
            default:
                return NONE;
        }
    }

    public int trouble() {
        return trouble;
    }

    // ---- what calls are refused by; each of these says also that the call isn't

    private int refuse(int number) {
        trouble = number;
        return NONE;
    }

    private boolean refusedIf(boolean wrong, int number) {
        trouble = wrong ? number : 0;
        return wrong;
    }

    private boolean noStreet() {
        return refusedIf(street.houses == 0, NO_SUCH);
    }

    private boolean noHouse(int h) {
        return refusedIf(h < 0 || h >= street.houses, NO_SUCH);
    }

    private boolean outside(int n, int least, int most) {
        return refusedIf(n < least || n > most, NUMBER);
    }

    private boolean noYears(int seed, int n) {
        return outside(seed, 0, SEEDS - 1) || outside(n, 0, MOST_YEARS);
    }

    private boolean burnsAlready(int h) {
        return refusedIf(fires.dayOf(story.told, h) <= story.now, NOT_SO);
    }

    private boolean noWay(int i) {
        if (noStreet()) {
            return true;
        }
        ways.make(story);
        return refusedIf(i < 0 || i >= ways.count, NO_SUCH);
    }

    // ---- small helps

    private static int shown(int day) {
        return day >= FAR ? NEVER : day;
    }

    private int burnEver(int told) {
        return Integer.bitCount(fires.burntBy(told, FAR - 1));
    }

    private boolean turnWire(int h, int pulled) {
        if (noHouse(h) || refusedIf((story.wires >> h & 1) == pulled, NOT_SO)) {
            return false;
        }
        story.keep();
        story.wires ^= 1 << h;
        return true;
    }

    /** What one of the two has, as he and his mate ring or don't. */
    private int has(boolean self, boolean mate) {
        if (self) {
            return (mate ? 1 : 4) - street.fright;
        }
        return mate ? 3 : 0;
    }

    private boolean stays(boolean one, boolean other) {
        return has(one, other) >= has(!one, other) && has(other, one) >= has(!other, one);
    }

    /** A part of a hundred to the number of causes, over all sets of causes that may come. */
    private long overAll(int sort, int h, int n, boolean lower) {
        long weight = 0;
        for (int come = 0; come < SETS; come++) {
            long part = fires.weight(come, story.told);
            if (part > 0) {
                weight += part * counted(sort, h, fires.burntIf(come, story.told, n));
            }
        }
        return lowest(weight, fires.wholeWeight(story.told), lower);
    }

    private static int counted(int sort, int h, int burnt) {
        switch (sort) {
            case ODDS:
                return burnt >> h & 1;
            case QUIET:
                return burnt == 0 ? 1 : 0;
            default:
                return Integer.bitCount(burnt);
        }
    }

    private static long lowest(long upper, long under, boolean lower) {
        long a = under;
        long b = upper;
        for (int i = 0; i < 200 && b != 0; i++) {
            long left = a % b;
            a = b;
            b = left;
        }
        if (a <= 0) {
            return lower ? 1 : 0;
        }
        return lower ? under / a : upper / a;
    }

    /** THE TAPE. */
    private static final class Tape {
        private final byte[] bytes = new byte[TAPE];
        int length;

        void add(int four) {
            for (int shift = 24; shift >= 0; shift -= 8) {
                if (length >= 0 && length < bytes.length) {
                    bytes[length] = (byte) (four >> shift);
                    length++;
                }
            }
        }

        int at(int i) {
            return i >= 0 && i < bytes.length ? bytes[i] & 255 : 0;
        }
    }

    /** A street as it was told; without houses: no street. */
    private static final class Street {
        int fright;
        int houses;
        final int[] kind = new int[HOUSES];
        final int[] cause = new int[HOUSES];
        final int[] by = new int[HOUSES];
        final int[] doing = new int[HOUSES];
        /** Bits of those whose wire is pulled as told. */
        int wires;
        int sparks;
        final int[] from = new int[SPARKS];
        final int[] to = new int[SPARKS];
        /** In how many days each lights, by the kind of house it goes to; FAR if never. */
        final int[] lag = new int[SPARKS];
        int glasses;
        final int[] glass = new int[GLASSES];
        int unknowns;
        final int[] unknown = new int[UNKNOWNS];
        int rungs;
        final int[] rungDay = new int[RUNGS];
        final int[] rungFor = new int[RUNGS];

        void clear() {
            fright = 0;
            houses = 0;
            wires = 0;
            sparks = 0;
            glasses = 0;
            unknowns = 0;
            rungs = 0;
        }

        /** The day of a house's own cause, by who was told; NEVER without one. */
        int causeOf(int h, int told) {
            if (cause[h] == NEVER || (told >> h & 1) == 0) {
                return cause[h];
            }
            if (doing[h] == DOUSE) {
                return NEVER;
            }
            return doing[h] == PANIC ? Math.max(0, cause[h] - 1) : cause[h];
        }

        /** Bits of those who have no sparks any more, by who was told. */
        int cutBy(int told) {
            int bits = 0;
            for (int h = 0; h < houses; h++) {
                if ((told >> h & 1) == 1 && doing[h] == CUT) {
                    bits |= 1 << h;
                }
            }
            return bits;
        }

        int sparkOf(int h, int other) {
            for (int s = 0; s < sparks; s++) {
                if (from[s] == h && to[s] == other) {
                    return s;
                }
            }
            return NONE;
        }

        int lagOf(int h, int other, int cut) {
            int s = sparkOf(h, other);
            return s == NONE || (cut >> h & 1) == 1 ? FAR : lag[s];
        }

        int doers() {
            int count = 0;
            for (int h = 0; h < houses; h++) {
                if (doing[h] != 0) {
                    count++;
                }
            }
            return count;
        }
    }

    /** Reads the text of a street, up to the first fault. */
    private static final class Reader {
        private static final int END = 0;
        private static final int WORD = 1;
        private static final int WHOLE = 2;
        private static final int SEMICOLON = 3;
        private static final int OTHER = 4;

        private static final int FORM = 1;
        private static final int UNTOLD = 2;
        private static final int AGAIN = 3;
        private static final int BOUNDS = 4;
        private static final int MANY = 5;
        private static final int LACKS = 6;

        private final Tape tape;
        private final long[] names = new long[HOUSES];
        private Street into;
        private int end;
        private boolean opened;
        private int token;
        private int start;
        private int stop;
        /** The latest WHOLE within its bounds. */
        private int number;
        int fault;
        int place;

        Reader(Tape tape, Street into) {
            this.tape = tape;
            this.into = into;
        }

        boolean read(Street street, int n) {
            into = street;
            into.clear();
            end = n;
            opened = false;
            fault = 0;
            place = NONE;
            stop = 0;
            step();
            for (int lines = 0; lines <= TAPE; lines++) {
                if (!line()) {
                    return false;
                }
                if (token == END) {
                    return into.houses > 0 || fail(LACKS);
                }
                if (token != SEMICOLON) {
                    return fail(FORM);
                }
                step();
            }
            return fail(FORM);
        }

        private boolean fail(int sort) {
            fault = sort;
            place = start;
            return false;
        }

        // ---- tokens

        private void step() {
            start = stop;
            while (start < end && tape.at(start) == ' ') {
                start++;
            }
            stop = start;
            if (start >= end) {
                token = END;
            } else if (isLetter(tape.at(start))) {
                while (stop < end && isLetter(tape.at(stop))) {
                    stop++;
                }
                token = stop - start <= 8 ? WORD : OTHER;
            } else if (isDigit(tape.at(start))) {
                while (stop < end && isDigit(tape.at(stop))) {
                    stop++;
                }
                token = stop - start <= 3 ? WHOLE : OTHER;
            } else {
                token = tape.at(start) == ';' ? SEMICOLON : OTHER;
                stop++;
            }
        }

        private static boolean isLetter(int b) {
            return b >= 'a' && b <= 'z';
        }

        private static boolean isDigit(int b) {
            return b >= '0' && b <= '9';
        }

        private boolean isWord(String word) {
            if (token != WORD || word.length() != stop - start) {
                return false;
            }
            for (int i = 0; i < word.length(); i++) {
                if (word.charAt(i) != tape.at(start + i)) {
                    return false;
                }
            }
            return true;
        }

        /** Which of the words that are no names it is: 0 to 7 begin lines, 8 is nobody; NONE: it is a name. */
        private int reserved() {
            if (isWord("street")) {
                return 0;
            } else if (isWord("house")) {
                return 1;
            } else if (isWord("spark")) {
                return 2;
            } else if (isWord("does")) {
                return 3;
            } else if (isWord("pulled")) {
                return 4;
            } else if (isWord("glass")) {
                return 5;
            } else if (isWord("unknown")) {
                return 6;
            } else if (isWord("rung")) {
                return 7;
            }
            return isWord("nobody") ? 8 : NONE;
        }

        /** Five bits a letter, so that two names are alike just if their numbers are. */
        private long nameHere() {
            long name = 0;
            for (int i = start; i < stop; i++) {
                name = name * 32 + tape.at(i) - 'a' + 1;
            }
            return name;
        }

        // ---- parts of lines; each goes on to the next token, or fails at this one

        private boolean takeWord(String word) {
            if (!isWord(word)) {
                return fail(FORM);
            }
            step();
            return true;
        }

        private boolean takeWhole(int least, int most) {
            if (token != WHOLE) {
                return fail(FORM);
            }
            number = 0;
            for (int i = start; i < stop; i++) {
                number = number * 10 + tape.at(i) - '0';
            }
            if (number < least || number > most) {
                return fail(BOUNDS);
            }
            step();
            return true;
        }

        private int named(long name) {
            for (int h = 0; h < into.houses; h++) {
                if (names[h] == name) {
                    return h;
                }
            }
            return NONE;
        }

        /** The house whose name this token is, without going on, since it may still be one too often; NONE: it fails. */
        private int houseHere() {
            if (token != WORD || reserved() != NONE) {
                fail(FORM);
                return NONE;
            }
            int h = named(nameHere());
            if (h == NONE) {
                fail(UNTOLD);
            }
            return h;
        }

        // ---- lines

        private boolean line() {
            int sort = token == WORD ? reserved() : NONE;
            if (sort < 0 || sort > 7) {
                return fail(FORM);
            }
            if (sort == 0 && opened) {
                return fail(AGAIN);
            }
            if (sort != 0 && !opened) {
                return fail(LACKS);
            }
            if (isFull(sort)) {
                return fail(MANY);
            }
            step();
            switch (sort) {
                case 0:
                    return streetLine();
                case 1:
                    return houseLine();
                case 2:
                    return sparkLine();
                case 3:
                    return doesLine();
                case 4:
                    return pulledLine();
                case 5:
                    return glassLine();
                case 6:
                    return unknownLine();
                default:
                    return rungLine();
            }
        }

        private boolean isFull(int sort) {
            switch (sort) {
                case 1:
                    return into.houses >= HOUSES;
                case 2:
                    return into.sparks >= SPARKS;
                case 5:
                    return into.glasses >= GLASSES;
                case 6:
                    return into.unknowns >= UNKNOWNS;
                case 7:
                    return into.rungs >= RUNGS;
                default:
                    return false;
            }
        }

        private boolean streetLine() {
            opened = true;
            if (!takeWord("fright") || !takeWhole(0, 9)) {
                return false;
            }
            into.fright = number;
            return true;
        }

        private boolean houseLine() {
            if (token != WORD || reserved() != NONE) {
                return fail(FORM);
            }
            long name = nameHere();
            if (named(name) != NONE) {
                return fail(AGAIN);
            }
            step();
            int kind = kindHere();
            if (kind == NONE) {
                return fail(FORM);
            }
            step();
            int cause = NEVER;
            int by = 0;
            if (isWord("calm")) {
                step();
            } else {
                if (!takeWord("day") || !takeWhole(0, 60)) {
                    return false;
                }
                cause = number;
                if (!takeWord("by") || !takeWhole(0, 100)) {
                    return false;
                }
                by = number;
            }
            addHouse(name, kind, cause, by);
            return true;
        }

        private int kindHere() {
            if (isWord("brick")) {
                return BRICK;
            } else if (isWord("thatch")) {
                return THATCH;
            } else if (isWord("timber")) {
                return TIMBER;
            }
            return isWord("stone") ? STONE : NONE;
        }

        private void addHouse(long name, int kind, int cause, int by) {
            int h = into.houses;
            names[h] = name;
            into.kind[h] = kind;
            into.cause[h] = cause;
            into.by[h] = by;
            into.doing[h] = 0;
            into.houses = h + 1;
        }

        private boolean sparkLine() {
            int from = houseHere();
            if (from == NONE) {
                return false;
            }
            step();
            int to = houseHere();
            if (to == NONE) {
                return false;
            }
            if (to == from || into.sparkOf(from, to) != NONE) {
                return fail(AGAIN);
            }
            step();
            if (!takeWord("days") || !takeWhole(0, 9)) {
                return false;
            }
            int s = into.sparks;
            into.from[s] = from;
            into.to[s] = to;
            into.lag[s] = lagTo(into.kind[to], number);
            into.sparks = s + 1;
            return true;
        }

        private static int lagTo(int kind, int days) {
            switch (kind) {
                case BRICK:
                    return days + 1;
                case THATCH:
                    return Math.max(0, days - 1);
                case TIMBER:
                    return days;
                default:
                    return FAR;
            }
        }

        private boolean doesLine() {
            int h = houseHere();
            if (h == NONE) {
                return false;
            }
            if (into.doing[h] != 0) {
                return fail(AGAIN);
            }
            step();
            if (isWord("douse")) {
                into.doing[h] = DOUSE;
            } else if (isWord("cut")) {
                into.doing[h] = CUT;
            } else if (isWord("panic")) {
                into.doing[h] = PANIC;
            } else {
                return fail(FORM);
            }
            step();
            return true;
        }

        private boolean pulledLine() {
            int h = houseHere();
            if (h == NONE) {
                return false;
            }
            if ((into.wires >> h & 1) == 1) {
                return fail(AGAIN);
            }
            into.wires |= 1 << h;
            step();
            return true;
        }

        private boolean glassLine() {
            int least = into.glasses > 0 ? into.glass[into.glasses - 1] + 1 : 0;
            if (!takeWord("day") || !takeWhole(least, 30)) {
                return false;
            }
            into.glass[into.glasses] = number;
            into.glasses++;
            return true;
        }

        private boolean unknownLine() {
            int h = houseHere();
            if (h == NONE) {
                return false;
            }
            for (int u = 0; u < into.unknowns; u++) {
                if (into.unknown[u] == h) {
                    return fail(AGAIN);
                }
            }
            into.unknown[into.unknowns] = h;
            into.unknowns++;
            step();
            return true;
        }

        private boolean rungLine() {
            if (!takeWord("day") || !takeWhole(0, 30)) {
                return false;
            }
            int whom = NEVER;
            if (!isWord("nobody")) {
                whom = houseHere();
                if (whom == NONE) {
                    return false;
                }
            }
            step();
            into.rungDay[into.rungs] = number;
            into.rungFor[into.rungs] = whom;
            into.rungs++;
            return true;
        }
    }

    /** When houses burn: by who was told, by which causes come, without one of the sparks. */
    private static final class Fires {
        Street street;
        private final int[] own = new int[HOUSES];
        /** When each burns, by the latest spread. */
        final int[] row = new int[HOUSES];
        /** A row of days for each set of houses that may have been told. */
        private final int[] byTold = new int[SETS * HOUSES];
        /** A row of days for each set of causes that may come, all for those told in comeTold. */
        private final int[] byCome = new int[SETS * HOUSES];
        private int comeTold;
        int seed;

        Fires(Street street) {
            this.street = street;
        }

        void begin(Street read) {
            street = read;
            comeTold = NONE;
            for (int told = 0; told < 1 << street.houses; told++) {
                causes(told, SETS - 1);
                spread(street.cutBy(told), NONE);
                System.arraycopy(row, 0, byTold, told * HOUSES, HOUSES);
            }
        }

        // ---- one fire

        private void causes(int told, int come) {
            for (int h = 0; h < street.houses; h++) {
                int day = street.causeOf(h, told);
                own[h] = day == NEVER || (come >> h & 1) == 0 ? FAR : day;
            }
        }

        /** All burn by their own causes first; sparks make that sooner until nothing changes. */
        private void spread(int cut, int without) {
            for (int h = 0; h < HOUSES; h++) {
                row[h] = h < street.houses ? own[h] : FAR;
            }
            boolean changed = true;
            for (int round = 0; round < HOUSES && changed; round++) {
                changed = false;
                for (int s = 0; s < street.sparks; s++) {
                    int from = street.from[s];
                    int to = street.to[s];
                    int day = row[from] + street.lag[s];
                    if (s != without && (cut >> from & 1) == 0 && day < row[to]) {
                        row[to] = day;
                        changed = true;
                    }
                }
            }
        }

        /** As told in the text, nobody told, but for the days of some: those in the guess. */
        void guess(int[] guessed, int count) {
            causes(0, SETS - 1);
            for (int u = 0; u < count && u < street.unknowns; u++) {
                own[street.unknown[u]] = guessed[u] == NEVER ? FAR : guessed[u];
            }
            spread(0, NONE);
        }

        int burnWithout(int told, int spark) {
            causes(told, SETS - 1);
            spread(street.cutBy(told), spark);
            int count = 0;
            for (int h = 0; h < street.houses; h++) {
                if (row[h] < FAR) {
                    count++;
                }
            }
            return count;
        }

        // ---- by who was told

        int dayOf(int told, int h) {
            return byTold[told * HOUSES + h];
        }

        int burntBy(int told, int day) {
            return bitsBy(byTold, told, day);
        }

        int soonest(int told, int wires, int after) {
            return soonestIn(byTold, told, wires, after);
        }

        /** A house that burns already does nothing if it is told, and isn't next. */
        int agreeing(int told, int wires, int on) {
            int bits = 0;
            for (int h = 0; h < street.houses; h++) {
                if (dayOf(told, h) > on && soonest(told | 1 << h, wires, on) == h) {
                    bits |= 1 << h;
                }
            }
            return bits;
        }

        int lighter(int told, int h) {
            int day = dayOf(told, h);
            if (day >= FAR || day == street.causeOf(h, told)) {
                return NEVER;
            }
            int cut = street.cutBy(told);
            for (int other = 0; other < street.houses; other++) {
                if (dayOf(told, other) + street.lagOf(other, h, cut) == day) {
                    return other;
                }
            }
            return NEVER;
        }

        // ---- by which causes come

        int burntIf(int come, int told, int day) {
            if (comeTold != told) {
                makeCome(told);
            }
            return bitsBy(byCome, come, day);
        }

        private void makeCome(int told) {
            comeTold = told;
            for (int come = 0; come < 1 << street.houses; come++) {
                causes(told, come);
                spread(street.cutBy(told), NONE);
                System.arraycopy(row, 0, byCome, come * HOUSES, HOUSES);
            }
        }

        /** In how many of all cases just these causes come; 0 if there is no such cause. */
        long weight(int come, int told) {
            long product = 1;
            for (int h = 0; h < HOUSES; h++) {
                boolean comes = (come >> h & 1) == 1;
                if (h < street.houses && street.causeOf(h, told) != NEVER) {
                    product *= comes ? street.by[h] : 100 - street.by[h];
                } else if (comes) {
                    return 0;
                }
            }
            return product;
        }

        /** How many cases there are: a hundred for each cause. */
        long wholeWeight(int told) {
            long product = 1;
            for (int h = 0; h < street.houses; h++) {
                if (street.causeOf(h, told) != NEVER) {
                    product *= 100;
                }
            }
            return product;
        }

        /** Which causes come in the next year by the seed. */
        int draw(int told) {
            int come = 0;
            for (int h = 0; h < street.houses; h++) {
                if (street.causeOf(h, told) != NEVER) {
                    seed = (75 * seed + 74) % SEEDS;
                    if (seed % 100 < street.by[h]) {
                        come |= 1 << h;
                    }
                }
            }
            return come;
        }

        // ---- reading rows

        private int bitsBy(int[] days, int at, int day) {
            int bits = 0;
            for (int h = 0; h < street.houses; h++) {
                if (days[at * HOUSES + h] <= day) {
                    bits |= 1 << h;
                }
            }
            return bits;
        }

        /** The first of those that burn soonest later than a day, by one of the rows of days; NEVER: nobody. */
        int soonestIn(int[] days, int at, int wires, int after) {
            int best = NEVER;
            int day = FAR;
            for (int h = 0; h < street.houses; h++) {
                int burn = days[at * HOUSES + h];
                if ((wires >> h & 1) == 0 && burn > after && burn < day) {
                    day = burn;
                    best = h;
                }
            }
            return best;
        }
    }

    /** All rows of houses for which the bell can ring, glass by glass. */
    private static final class Ways {
        /** Six to the fourth: as many as six houses and four glasses could ever have. */
        private static final int MOST = 1296;

        private final Fires fires;
        /** Of each way four rings of four bits (0 nobody, else the house and 1), and above them who was told. */
        private final int[] row = new int[MOST];
        private int wires;
        private int first;
        private int now;
        private int told;
        boolean made;
        int count;
        int rings;
        int rungFor;

        Ways(Fires fires) {
            this.fires = fires;
        }

        void make(Story story) {
            if (made && now == story.now && told == story.told && wires == story.wires) {
                return;
            }
            made = true;
            now = story.now;
            told = story.told;
            wires = story.wires;
            count = 0;
            rungFor = 0;
            first = 0;
            while (first < fires.street.glasses && fires.street.glass[first] < now) {
                first++;
            }
            rings = fires.street.glasses - first;
            go(0, told, 0);
        }

        private void go(int ring, int heard, int rung) {
            if (ring >= rings || ring >= GLASSES) {
                if (count < MOST) {
                    row[count] = heard << 16 | rung;
                    count++;
                }
                return;
            }
            int who = fires.agreeing(heard, wires, fires.street.glass[first + ring]);
            if (who == 0) {
                go(ring + 1, heard, rung);
                return;
            }
            rungFor |= who;
            for (int h = 0; h < fires.street.houses; h++) {
                if ((who >> h & 1) == 1) {
                    go(ring + 1, heard | 1 << h, rung | (h + 1) << (4 * ring));
                }
            }
        }

        int ringOf(int i, int ring) {
            int whom = (row[i] >> (4 * ring)) & 15;
            return whom == 0 ? NEVER : whom - 1;
        }

        int burntOf(int i) {
            return Integer.bitCount(fires.burntBy(row[i] >> 16, WAY_DAY));
        }
    }

    /** The days that the unknown houses can have, by who was rung for. */
    private static final class Guesses {
        /** Days 0 to 9, and none behind them. */
        private static final int CHOICES = 11;
        private static final int MOST = 121;

        private final Fires fires;
        private final int[] guess = new int[UNKNOWNS];
        /** How many fits are left by who is next, nobody last. */
        private final int[] left = new int[HOUSES + 1];
        private final int[] days = new int[MOST * HOUSES];
        final int[] fitting = new int[MOST];
        boolean made;
        int count;
        int bestDay;
        int leaves;

        Guesses(Fires fires) {
            this.fires = fires;
        }

        void make() {
            if (made) {
                return;
            }
            made = true;
            count = 0;
            int all = 1;
            for (int u = 0; u < fires.street.unknowns; u++) {
                all *= CHOICES;
            }
            for (int g = 0; g < all && count < MOST; g++) {
                for (int u = 0; u < fires.street.unknowns; u++) {
                    guess[u] = guessed(g, u);
                }
                fires.guess(guess, fires.street.unknowns);
                if (isAsRung()) {
                    fitting[count] = g;
                    System.arraycopy(fires.row, 0, days, count * HOUSES, HOUSES);
                    count++;
                }
            }
            makeTry();
        }

        /** The day of an unknown house by a guess, of which the first house is the highest digit. */
        int guessed(int g, int u) {
            int digit = u + 1 < fires.street.unknowns ? g / CHOICES : g % CHOICES;
            return digit == CHOICES - 1 ? NEVER : digit;
        }

        private boolean isAsRung() {
            for (int r = 0; r < fires.street.rungs; r++) {
                if (fires.soonestIn(fires.row, 0, fires.street.wires, fires.street.rungDay[r]) != fires.street.rungFor[r]) {
                    return false;
                }
            }
            return true;
        }

        int soonest(int i, int day) {
            return fires.soonestIn(days, i, fires.street.wires, day);
        }

        private void makeTry() {
            bestDay = NEVER;
            leaves = NEVER;
            for (int day = 0; day <= TRY_DAYS && count > 0; day++) {
                int most = mostLeft(day);
                if (bestDay == NEVER || most < leaves) {
                    bestDay = day;
                    leaves = most;
                }
            }
        }

        private int mostLeft(int day) {
            for (int h = 0; h <= HOUSES; h++) {
                left[h] = 0;
            }
            int most = 0;
            for (int i = 0; i < count; i++) {
                int who = soonest(i, day);
                int place = who == NEVER ? HOUSES : who;
                left[place]++;
                most = Math.max(most, left[place]);
            }
            return most;
        }
    }

    /** What goes on in the street: who was told, wires, the day; what was ahead of the latest acts; images. */
    private static final class Story {
        private static final int KEPT = 16;
        private static final int IMAGES = 3;

        int told;
        int wires;
        int now;
        private final int[] kept = new int[KEPT];
        /** Where in kept the next act goes, round and round. */
        private int turn;
        int acts;
        private final int[] image = new int[IMAGES];
        int images;

        void begin(int pulled) {
            told = 0;
            wires = pulled;
            now = 0;
            acts = 0;
            images = 0;
        }

        private int packed() {
            return now << 12 | wires << 6 | told;
        }

        private void unpack(int all) {
            told = all & SETS - 1;
            wires = all >> 6 & SETS - 1;
            now = all >> 12;
        }

        /** To be called ahead of each act. */
        void keep() {
            kept[turn] = packed();
            turn = (turn + 1) % KEPT;
            acts = Math.min(acts + 1, KEPT);
        }

        boolean takeBack() {
            if (acts == 0) {
                return false;
            }
            acts--;
            turn = (turn + KEPT - 1) % KEPT;
            unpack(kept[turn]);
            return true;
        }

        int keepImage() {
            if (images >= IMAGES) {
                return NONE;
            }
            image[images] = packed();
            images++;
            return images - 1;
        }

        boolean goBack(int i) {
            if (i < 0 || i >= images) {
                return false;
            }
            unpack(image[i]);
            acts = 0;
            return true;
        }
    }
}
