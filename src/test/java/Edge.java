import java.util.ArrayList;
import java.util.List;

/**
 * Calls at their edges. Each is made on an object of its own, behind a call that had another trouble, so that one that
 * leaves TROUBLE as it was is seen; a refused call must change nothing else.
 */
final class Edge {
    static final int LEAST = Integer.MIN_VALUE;
    static final int MOST = Integer.MAX_VALUE;

    /** A call, its answer as a number: a boolean counts 1 or 0. */
    interface Ask {
        long of(NextBell x);
    }

    /** A call by its name, and what it answers without a STREET. */
    record Call(String name, long none, Ask ask) {
    }

    /** All calls that may be refused, with arguments that are good in a street of two houses. */
    static final List<Call> REFUSABLE = List.of(
            new Call("house", -1, x -> x.house(0, 0)),
            new Call("spark", -1, x -> x.spark(0, 1)),
            new Call("burns", -1, x -> x.burns(0)),
            new Call("litBy", -1, x -> x.litBy(0)),
            new Call("burnt", -1, x -> x.burnt(0)),
            new Call("lastDay", -1, NextBell::lastDay),
            new Call("next", -1, x -> x.next(0)),
            new Call("agrees", -1, x -> x.agrees(90)),
            new Call("burnsIf", -1, x -> x.burnsIf(0, 1)),
            new Call("saves", -1, x -> x.saves(0)),
            new Call("bestTold", -1, NextBell::bestTold),
            new Call("dumbDay", -1, NextBell::dumbDay),
            new Call("ways", -1, NextBell::ways),
            new Call("wayAt", -1, x -> x.wayAt(0, 0)),
            new Call("bestWay", -1, NextBell::bestWay),
            new Call("wayBurnt", -1, x -> x.wayBurnt(0)),
            new Call("couldRing", -1, NextBell::couldRing),
            new Call("safe", -1, x -> x.safe(0)),
            new Call("bestCut", -1, NextBell::bestCut),
            new Call("fits", -1, NextBell::fits),
            new Call("fitAt", -1, x -> x.fitAt(0, 0)),
            new Call("nextBy", -1, x -> x.nextBy(0, 0)),
            new Call("tryDay", -1, NextBell::tryDay),
            new Call("tryLeaves", -1, NextBell::tryLeaves),
            new Call("judge", -1, NextBell::judge),
            new Call("rings", -100, x -> x.rings(false, true, false)),
            new Call("rests", -1, NextBell::rests),
            new Call("rest", -1, NextBell::rest),
            new Call("odds", -1, x -> x.odds(0, 0, false)),
            new Call("quiet", -1, x -> x.quiet(0, false)),
            new Call("mean", -1, x -> x.mean(0, false)),
            new Call("years", -1, x -> x.years(0, 0, 0)),
            new Call("worstYear", -1, x -> x.worstYear(0, 0)),
            new Call("tell", -1, x -> x.tell(0)),
            new Call("pull", 0, x -> x.pull(0) ? 1 : 0),
            new Call("mend", 0, x -> x.mend(1) ? 1 : 0),
            new Call("day", -1, NextBell::day),
            new Call("image", -1, NextBell::image),
            new Call("back", 0, x -> x.back(0) ? 1 : 0));

    /** All calls of which the document tells no number: they leave TROUBLE. */
    static final List<Call> NEVER_REFUSED = List.of(
            new Call("feed", 20, x -> x.feed(0, 0, 0, 0, 0)),
            new Call("fault", 0, NextBell::fault),
            new Call("where", -1, NextBell::where),
            new Call("led 0", -99, x -> Due.led(x, 0)),
            new Call("led 9", -99, x -> Due.led(x, 9)),
            new Call("size 0", 0, x -> x.size(0)),
            new Call("size 12", -1, x -> x.size(12)),
            new Call("trouble", 2, NextBell::trouble));

    private Edge() {
    }

    // ---- objects

    /** A new object; with a text: that street, behind acts such as "tell0 pull1 mend1 day5 undo image back0". */
    static NextBell at(String text, String acts) {
        if (text == null) {
            return new NextBell();
        }
        NextBell x = Due.street(text);
        for (String act : acts.split(" ")) {
            if (!act.isEmpty()) {
                act(x, act);
            }
        }
        return x;
    }

    private static void act(NextBell x, String act) {
        String name = act.replaceAll("[0-9]", "");
        String digits = act.replaceAll("[^0-9]", "");
        int n = digits.isEmpty() ? 1 : Integer.parseInt(digits);
        switch (name) {
            case "tell" -> x.tell(n);
            case "pull" -> x.pull(n);
            case "mend" -> x.mend(n);
            case "back" -> x.back(n);
            case "image" -> x.image();
            case "undo" -> times(n, x::undo);
            case "day" -> times(n, x::day);
            default -> throw new IllegalArgumentException(act);
        }
        Due.is("trouble behind " + act, x.trouble(), 0);
    }

    private static void times(int n, Runnable act) {
        for (int i = 0; i < n; i++) {
            act.run();
        }
    }

    /** Leaves another trouble than one, and nothing else: street(-1) is refused by 2, house(-1, 0) by 1. */
    static void otherTrouble(NextBell x, int trouble) {
        if (trouble == 2) {
            x.house(-1, 0);
        } else {
            x.street(-1);
        }
    }

    // ---- answers

    /** A call that isn't refused. */
    static void is(String text, String acts, String what, long want, Ask ask) {
        NextBell x = at(text, acts);
        otherTrouble(x, 0);
        Due.is(what, ask.of(x), want);
        Due.is("trouble behind " + what, x.trouble(), 0);
        Due.is("place behind " + what, x.where(), -1);
    }

    /** A call that is refused by a number. */
    static void no(String text, String acts, String what, int trouble, long want, Ask ask) {
        NextBell x = at(text, acts);
        otherTrouble(x, trouble);
        List<Long> ahead = all(x);
        otherTrouble(x, trouble);
        Due.is(what, ask.of(x), want);
        Due.is("trouble behind " + what, x.trouble(), trouble);
        Due.is("place behind " + what, x.where(), -1);
        List<Long> behind = all(x);
        Due.is("all stays behind " + what + ": " + ahead + " " + behind, ahead.equals(behind), true);
    }

    /** A call refused by a number, its answer NONE. */
    static void no(String text, String acts, String what, int trouble, Ask ask) {
        no(text, acts, what, trouble, -1, ask);
    }

    /** All that acts, texts and bytes change. */
    static List<Long> all(NextBell x) {
        List<Long> all = new ArrayList<>();
        for (int what = 0; what <= 11; what++) {
            all.add((long) x.size(what));
        }
        all.add((long) x.fault());
        for (int h = 0; h < x.size(1); h++) {
            for (int what = 0; what < 6; what++) {
                all.add((long) x.house(h, what));
            }
            all.add((long) x.burns(h));
        }
        return all;
    }
}
