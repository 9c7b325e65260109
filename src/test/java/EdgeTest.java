import java.util.ArrayList;
import java.util.Arrays;
import java.util.List;

/**
 * Each sentence of the document that names a boundary case, by itself: the least and the greatest number that is
 * taken, the next ones outside, the ends of int and long, nothing there, everything full, each refusal alone and
 * two at once. A refused call is also played into a second object, and all that both tell must be the same.
 */
public final class EdgeTest {
    private static final int NONE = -1, UNKNOWN = -101, OUTSIDE = -102, STATE = -103, ROOM = -104;
    private static final int NOT = -105, EARLY = -106, LATE = -107, DONE = -108;
    private static final int TWICE = 0, LOCK = 1, BARE = 2;
    private static final long MOST = 1000000000L;
    private static final int CALLS = 512;

    private static int wrong = 0;
    private static int sentences = 0;
    private static String sentence = "";

    private static void says(int promise, String words) {
        sentence = promise + ": " + words;
        sentences++;
    }

    private static void report(String text) {
        wrong++;
        if (wrong <= 60) {
            System.out.println("[" + sentence + "] " + text);
        }
    }

    // ---- runs of calls

    record Call(String name, long[] args) {
        int at(int i) {
            return (int) args[i];
        }

        long on(FaultEvidence x) {
            switch (name) {
                case "node": return x.node(args[0]);
                case "add": return x.add(at(0), args[1]);
                case "next": return x.next();
                case "set": return x.set(at(0), args[1]);
                case "vote": return x.vote(at(0), at(1), at(2), at(3), at(4));
                case "may": return x.may(at(0), at(1), at(2), at(3), at(4));
                case "accuse": return x.accuse(at(0), at(1), at(2), at(3));
                case "about": return x.about(at(0));
                case "holds": return x.holds(at(0), at(1));
                case "said": return x.said(at(0), at(1));
                case "weight": return x.weight(at(0), at(1));
                case "backed": return x.backed(at(0), at(1), at(2), at(3));
                case "certain": return x.certain(at(0), at(1));
                case "breaks": return x.breaks(at(0), at(1));
                case "broken": return x.broken(at(0), at(1), at(2), at(3));
                case "named": return x.named(at(0));
                case "taken": return x.taken(at(0), at(1));
                default: throw new IllegalStateException(name);
            }
        }

        boolean isTelling() {
            return !List.of("node", "add", "next", "set", "vote", "may", "accuse").contains(name);
        }

        String text() {
            return name + Arrays.toString(args).replace('[', '(').replace(']', ')');
        }
    }

    /** One object and the calls that it had, so that they can be played again. */
    static final class Run {
        private final FaultEvidence x = new FaultEvidence();
        private final List<Call> calls = new ArrayList<>();
        private int used = 0;
        /** What was told behind the calls up to now; null if that is not known. */
        private List<Long> told = null;

        long call(String name, long... args) {
            if (!new Call(name, args).isTelling()) {
                told = null;
            }
            return play(new Call(name, args));
        }

        private long play(Call call) {
            used++;
            if (used > CALLS) {
                report("the test uses an object for more than " + CALLS + " calls");
            }
            if (!call.isTelling()) {
                calls.add(call);
            }
            return call.on(x);
        }

        Run due(long want, String name, long... args) {
            compare(want, call(name, args), new Call(name, args));
            return this;
        }

        private void compare(long want, long got, Call call) {
            if (want != got) {
                report(call.text() + " answered " + got + ", due is " + want);
            }
        }

        /** The answer is as due, and nothing that is told has changed by the call. */
        Run still(long want, String name, long... args) {
            Call call = new Call(name, args);
            List<Call> questions = questions();
            if (told == null) {
                told = answers(questions, null);
            }
            List<Long> after = answers(questions, call);
            for (int i = 0; i < questions.size(); i++) {
                if (!after.get(i).equals(told.get(i))) {
                    report(call.text() + " changed " + questions.get(i).text() + " from " + told.get(i) + " to " + after.get(i));
                }
            }
            compare(want, play(call), call);
            return this;
        }

        private FaultEvidence again(Call last) {
            FaultEvidence y = new FaultEvidence();
            for (Call call : calls) {
                call.on(y);
            }
            if (last != null) {
                last.on(y);
            }
            return y;
        }

        /** So many questions to one new object that it has at most 512 calls; then to another one. */
        private List<Long> answers(List<Call> questions, Call last) {
            int room = CALLS - calls.size() - 1;
            List<Long> all = new ArrayList<>();
            FaultEvidence y = null;
            for (int i = 0; i < questions.size(); i++) {
                if (i % room == 0) {
                    y = again(last);
                }
                all.add(questions.get(i).on(y));
            }
            return all;
        }

        private List<Call> questions() {
            FaultEvidence y = again(null);
            List<Call> all = new ArrayList<>();
            ask(all, "about", 0, 10);
            for (int node = 0; node < 8; node++) {
                ask(all, "holds", 0, 4, node);
            }
            for (int vote = 0; vote <= y.about(2); vote++) {
                ask(all, "said", 0, 5, vote);
            }
            for (int i = 0; i <= y.about(3); i++) {
                ask(all, "taken", 0, 7, i);
            }
            for (int height = 1; height <= y.about(0) + 1; height++) {
                askHeight(all, y, height);
            }
            return all;
        }

        private static void askHeight(List<Call> all, FaultEvidence y, int height) {
            ask(all, "weight", -1, 8, height);
            ask(all, "certain", 0, 3, height);
            ask(all, "named", height, height + 1);
            boolean isNear = height >= y.about(0) - 2;
            for (int kind = 0; kind < 3; kind++) {
                ask(all, "breaks", kind, kind + 1, height);
                for (int i = 0; isNear && i <= Math.min(12, y.breaks(height, kind)); i++) {
                    ask(all, "broken", 0, 2, height, kind, i);
                }
            }
            for (int spot = 0; isNear && spot < 16; spot++) {
                ask(all, "backed", 0, 10, height, spot / 2, spot % 2);
            }
        }

        /** Questions with these first numbers and a last one from .. to - 1. */
        private static void ask(List<Call> all, String name, int from, int to, long... first) {
            for (int last = from; last < to; last++) {
                long[] args = Arrays.copyOf(first, first.length + 1);
                args[first.length] = last;
                all.add(new Call(name, args));
            }
        }

        /** The call is refused with every number outside from .. to in this place. */
        Run stillOutside(long want, int place, long from, long to, String name, long... args) {
            for (long v : outside(from, to)) {
                long[] changed = args.clone();
                changed[place] = v;
                still(want, name, changed);
            }
            return this;
        }

        Run forward(int heights) {
            for (int i = 0; i < heights; i++) {
                call("next");
            }
            return this;
        }

        Run votes(int[]... votes) {
            for (int[] v : votes) {
                call("vote", v[0], v[1], v[2], v[3], v[4]);
            }
            return this;
        }
    }

    /** Ints outside from .. to: the next ones, the ends, and those that a cut to fewer bits would bring inside. */
    private static long[] outside(long from, long to) {
        return new long[] {from - 1, to + 1, Integer.MIN_VALUE, Integer.MAX_VALUE, from + 256, from + 65536,
            from + (1 << 21), from - 256, Integer.MIN_VALUE + from};
    }

    /** The same for longs. */
    private static long[] outsideLong(long from, long to) {
        return new long[] {from - 1, to + 1, Long.MIN_VALUE, Long.MIN_VALUE + from, Long.MAX_VALUE, from + (1L << 32),
            from - (1L << 32), Integer.MIN_VALUE, -to};
    }

    private static Run fresh() {
        return new Run();
    }

    private static Run nodes(long... stakes) {
        Run r = new Run();
        for (long stake : stakes) {
            r.call("node", stake);
        }
        return r;
    }

    /** Nodes with these stakes, at height 1. */
    private static Run begun(long... stakes) {
        return nodes(stakes).forward(1);
    }

    /**
     * Three nodes at height 1; votes 0, 1 of node 0 are TWICE, 0, 2 are LOCK, 0 and 1 are each BARE. Node 2 has
     * said nothing.
     */
    private static Run threeKinds() {
        return begun(1000, 1000, 1000).votes(new int[][] {{0, 1, 0, 1, 1}, {0, 1, 0, 1, 2}, {0, 1, 1, 0, 2}, {1, 1, 0, 0, 1}});
    }

    /** Node 0 said all that it can at heights 1 and 2 but for the last 20 votes: no room is left. */
    private static Run full() {
        Run r = begun(5, 5).forward(1);
        r.call("node", 5);
        for (int i = 0; i < 300; i++) {
            r.call("vote", 0, 1 + i / 160, i % 160 / 20, i / 10 % 2, i % 10);
        }
        return r;
    }

    public static void main(String[] args) {
        newObject();
        node();
        add();
        next();
        set();
        voteNumbers();
        voteOpen();
        voteState();
        voteRoom();
        voteTwoAtOnce();
        mayRefusals();
        mayKinds();
        mayRounds();
        accuseRefusals();
        accuseTwoAtOnce();
        accuseNoBreak();
        accuseTimes();
        accuseSpan();
        accuseOnce();
        accuseCosts();
        accuseRewards();
        accuseLeast();
        about();
        holds();
        said();
        weight();
        theMost();
        backed();
        certain();
        breaksTwice();
        breaksLock();
        breaksLockRounds();
        breaksBare();
        broken();
        named();
        taken();
        tellingChangesNothing();
        blameOfOneRound();
        blameOfTwoRounds();
        blameOfNone();
        System.out.println(wrong == 0 ? "all " + sentences + " sentences hold" : wrong + " answers are not as due");
        if (wrong != 0) {
            System.exit(1);
        }
    }

    // ---- 1

    private static void newObject() {
        says(1, "no NODES: none is known");
        fresh().still(UNKNOWN, "holds", 0, 0).still(UNKNOWN, "add", 0, 1).still(UNKNOWN, "vote", 0, 0, 0, 0, 0)
            .still(UNKNOWN, "may", 0, 0, 0, 0, 0).due(0, "about", 1);

        says(1, "no VOTES: none is known, none was TAKEN");
        fresh().still(UNKNOWN, "said", 0, 0).still(UNKNOWN, "taken", 0, 0).due(0, "about", 2).due(0, "about", 3)
            .still(UNKNOWN, "accuse", TWICE, 0, 0, NONE).still(UNKNOWN, "accuse", LOCK, 0, 0, NONE)
            .still(UNKNOWN, "accuse", BARE, 0, 0, NONE).still(UNKNOWN, "accuse", 3, 0, 0, NONE);

        says(1, "HEIGHT is 0 at first: no height is told");
        for (int height = 0; height <= 1; height++) {
            fresh().due(0, "about", 0).due(OUTSIDE, "weight", height, NONE).due(UNKNOWN, "weight", height, 0)
                .due(OUTSIDE, "backed", height, 0, 0, 0).due(OUTSIDE, "certain", height, 0).due(OUTSIDE, "breaks", height, 0)
                .due(OUTSIDE, "broken", height, 0, 0, 0).due(OUTSIDE, "named", height);
        }

        says(1, "the RATES are 50, 100, 200, SPAN 10, LEAST 0 at first, nothing is BURNT");
        fresh().due(0, "about", 4).due(50, "about", 5).due(100, "about", 6).due(200, "about", 7).due(10, "about", 8).due(0, "about", 9);

        says(1, "a height may begin without NODES");
        fresh().due(1, "next").due(0, "weight", 1, NONE).due(UNKNOWN, "weight", 1, 0).due(0, "backed", 1, 0, 0, 0)
            .due(NONE, "certain", 1, 0).due(0, "breaks", 1, 0).due(NONE, "broken", 1, 0, 0, 0).due(0, "named", 1);

        says(1, "a new object knows nothing of another one");
        full();
        fresh().due(0, "about", 0).due(0, "about", 1).due(0, "about", 2).due(50, "about", 5).due(0, "node", 1);
    }

    // ---- 2

    private static void node() {
        says(2, "OUTSIDE (1 .. 1000000000): the numbers outside");
        Run r = nodes(7);
        for (long v : outsideLong(1, MOST)) {
            r.still(OUTSIDE, "node", v);
        }
        r.still(OUTSIDE, "node", 0).due(1, "about", 1).due(1, "node", 7);

        says(2, "OUTSIDE (1 .. 1000000000): the least and the greatest are taken");
        fresh().due(0, "node", 1).due(1, "node", MOST).due(1, "holds", 0, 0).due(MOST, "holds", 1, 0)
            .due(2, "node", 2).due(3, "node", MOST - 1).due(MOST - 1, "holds", 3, 0);

        says(2, "the first has the number 0, the eighth 7, a ninth has no ROOM");
        r = fresh();
        for (int i = 0; i < 8; i++) {
            r.due(i, "node", 10 + i).due(10 + i, "holds", i, 0);
        }
        r.still(ROOM, "node", 1).still(ROOM, "node", MOST).still(ROOM, "node", 10);
        r.due(UNKNOWN, "holds", 8, 0).due(8, "about", 1);

        says(2, "OUTSIDE comes before ROOM");
        for (long v : outsideLong(1, MOST)) {
            r.still(OUTSIDE, "node", v);
        }

        says(2, "the PURSE is 0 at first, and it is not OUT");
        nodes(5).due(0, "holds", 0, 1).due(0, "holds", 0, 2).due(0, "holds", 0, 3);
        Run poor = fresh();
        poor.due(0, "set", 4, MOST).due(0, "node", 1).due(0, "holds", 0, 2).due(1, "next").due(1, "weight", 1, 0);
    }

    // ---- 3

    private static void add() {
        says(3, "UNKNOWN: no such NODE");
        nodes(10, 20).stillOutside(UNKNOWN, 0, 0, 1, "add", 0, 1);
        fresh().stillOutside(UNKNOWN, 0, 0, -1, "add", 0, 1);

        says(3, "OUTSIDE (more is not 1 .. 1000000000)");
        Run r = nodes(10);
        for (long v : outsideLong(1, MOST)) {
            r.still(OUTSIDE, "add", 0, v);
        }
        r.due(11, "add", 0, 1);

        says(3, "OUTSIDE (it would be above 1000000000)");
        nodes(1).still(OUTSIDE, "add", 0, MOST).due(MOST, "add", 0, MOST - 1).still(OUTSIDE, "add", 0, 1)
            .still(OUTSIDE, "add", 0, MOST).due(MOST, "holds", 0, 0);
        nodes(MOST - 1).still(OUTSIDE, "add", 0, 2).due(MOST, "add", 0, 1);
        nodes(MOST, 5).still(OUTSIDE, "add", 0, 1).due(6, "add", 1, 1);

        says(3, "UNKNOWN comes before OUTSIDE");
        nodes(10).still(UNKNOWN, "add", 1, 0).still(UNKNOWN, "add", NONE, MOST + 1).still(UNKNOWN, "add", 1, MOST)
            .still(UNKNOWN, "add", Integer.MIN_VALUE, Long.MIN_VALUE).still(UNKNOWN, "add", Integer.MAX_VALUE, Long.MAX_VALUE);

        says(3, "onto a STAKE of 0 comes as much as 1000000000");
        Run empty = begun(9).votes(new int[][] {{0, 1, 0, 0, 1}, {0, 1, 0, 0, 2}});
        empty.due(50, "set", 0, 1000).due(9, "accuse", TWICE, 0, 1, NONE).due(0, "holds", 0, 0);
        empty.still(OUTSIDE, "add", 0, MOST + 1).due(MOST, "add", 0, MOST).still(OUTSIDE, "add", 0, 1);

        says(3, "what it is then; the WEIGHT of a height that began stays, the next one has it");
        begun(10, 10).due(15, "add", 1, 5).due(10, "weight", 1, 1).due(20, "weight", 1, NONE).due(10, "holds", 0, 0)
            .due(2, "next").due(15, "weight", 2, 1).due(25, "weight", 2, NONE).due(10, "weight", 1, 1);
    }

    // ---- 4

    private static void next() {
        says(4, "HEIGHT is 0 at first, 40 at most");
        Run r = nodes(10);
        for (int height = 1; height <= 40; height++) {
            r.due(height, "next").due(height, "about", 0);
        }
        r.still(ROOM, "next").still(ROOM, "next").due(40, "about", 0).due(10, "weight", 40, 0).due(OUTSIDE, "weight", 41, 0);

        says(4, "refused for ROOM, the heights 39 and 40 stay OPEN, 38 and 41 are not");
        r.due(0, "vote", 0, 40, 0, 0, 1).due(1, "vote", 0, 39, 0, 0, 1);
        r.still(OUTSIDE, "vote", 0, 38, 0, 0, 1).still(OUTSIDE, "vote", 0, 41, 0, 0, 1);

        says(4, "refused for ROOM, a STAKE that grew makes no new WEIGHT");
        r.due(11, "add", 0, 1).still(ROOM, "next").due(10, "weight", 40, 0).due(10, "weight", 40, NONE);

        says(4, "WEIGHT: 0 of a NODE that comes later");
        Run late = begun(10);
        late.due(1, "node", 4).due(0, "weight", 1, 1).due(10, "weight", 1, NONE).due(2, "next").due(4, "weight", 2, 1)
            .due(14, "weight", 2, NONE).due(0, "weight", 1, 1);
    }

    // ---- 5

    private static void set() {
        long[] first = {50, 100, 200, 10, 0}, from = {0, 0, 0, 2, 0}, to = {1000, 1000, 1000, 20, MOST};
        for (int what = 0; what < 5; what++) {
            says(5, "what = " + what + ": the numbers outside");
            Run r = fresh();
            for (long v : outsideLong(from[what], to[what])) {
                r.still(OUTSIDE, "set", what, v);
            }
            r.due(first[what], "about", 5 + what);

            says(5, "what = " + what + ": the least and the greatest, and what it was");
            r.due(first[what], "set", what, from[what]).due(from[what], "about", 5 + what).due(from[what], "set", what, to[what])
                .due(to[what], "about", 5 + what).due(to[what], "set", what, to[what]).due(to[what], "set", what, first[what]);

            says(5, "what = " + what + ": the others stay");
            r.call("set", what, to[what]);
            for (int other = 0; other < 5; other++) {
                r.due(other == what ? to[other] : first[other], "about", 5 + other);
            }
        }

        says(5, "OUTSIDE: what is not 0 .. 4");
        fresh().stillOutside(OUTSIDE, 0, 0, 4, "set", 0, 10).still(OUTSIDE, "set", 5, 0).still(OUTSIDE, "set", 9, 10);

        says(5, "OUTSIDE: what and v");
        fresh().still(OUTSIDE, "set", 5, -1).still(OUTSIDE, "set", -1, MOST + 1)
            .still(OUTSIDE, "set", Integer.MIN_VALUE, Long.MIN_VALUE).still(OUTSIDE, "set", Integer.MAX_VALUE, Long.MAX_VALUE);

        says(5, "what was TAKEN before keeps its COST and puts nobody OUT anew");
        Run r = threeKinds();
        r.due(50, "accuse", TWICE, 0, 1, 1).due(50, "set", 0, 1000).due(0, "set", 4, MOST).due(50, "taken", 0, 5)
            .due(950, "holds", 0, 0).due(0, "holds", 0, 2).due(2, "next").due(950, "weight", 2, 0);
    }

    // ---- 6

    private static void voteNumbers() {
        says(6, "UNKNOWN (node)");
        begun(5, 5).stillOutside(UNKNOWN, 0, 0, 1, "vote", 0, 1, 0, 0, 1);

        says(6, "OUTSIDE (round): 0 .. 7");
        begun(5).stillOutside(OUTSIDE, 2, 0, 7, "vote", 0, 1, 0, 0, 1).due(0, "vote", 0, 1, 0, 0, 1).due(1, "vote", 0, 1, 7, 0, 1)
            .due(7, "said", 1, 2);

        says(6, "OUTSIDE (step): 0 or 1");
        begun(5).stillOutside(OUTSIDE, 3, 0, 1, "vote", 0, 1, 0, 0, 1).due(0, "vote", 0, 1, 0, 0, 1).due(1, "vote", 0, 1, 0, 1, 1)
            .due(1, "said", 1, 3);

        says(6, "OUTSIDE (block): 0 .. 9");
        begun(5).stillOutside(OUTSIDE, 4, 0, 9, "vote", 0, 1, 0, 0, 0).due(0, "vote", 0, 1, 0, 0, 0).due(1, "vote", 0, 1, 0, 0, 9)
            .due(0, "said", 0, 4).due(9, "said", 1, 4);

        says(6, "its number, also if it was kept already");
        Run r = begun(5, 5).due(0, "vote", 0, 1, 0, 0, 1).still(0, "vote", 0, 1, 0, 0, 1).due(1, "vote", 1, 1, 0, 0, 1)
            .still(0, "vote", 0, 1, 0, 0, 1).still(1, "vote", 1, 1, 0, 0, 1).due(2, "about", 2);

        says(6, "one number unlike makes another VOTE");
        r.due(2, "vote", 0, 1, 1, 0, 1).due(3, "vote", 0, 1, 0, 1, 1).due(4, "vote", 0, 1, 0, 0, 2).due(2, "next")
            .due(5, "vote", 0, 2, 0, 0, 1).still(0, "vote", 0, 1, 0, 0, 1).still(5, "vote", 0, 2, 0, 0, 1).due(6, "about", 2);
    }

    private static void voteOpen() {
        says(6, "OUTSIDE (height): below 1, though HEIGHT is that or 1 more");
        nodes(5).still(OUTSIDE, "vote", 0, 0, 0, 0, 1).still(OUTSIDE, "vote", 0, -1, 0, 0, 1).still(OUTSIDE, "vote", 0, 1, 0, 0, 1);
        begun(5).still(OUTSIDE, "vote", 0, 0, 0, 0, 1).due(0, "vote", 0, 1, 0, 0, 1);

        says(6, "OUTSIDE (height): it is not OPEN");
        begun(5).stillOutside(OUTSIDE, 1, 1, 1, "vote", 0, 1, 0, 0, 1);
        begun(5).forward(1).stillOutside(OUTSIDE, 1, 1, 2, "vote", 0, 1, 0, 0, 1);
        begun(5).forward(2).stillOutside(OUTSIDE, 1, 2, 3, "vote", 0, 2, 0, 0, 1);

        says(6, "OPEN while HEIGHT is that or 1 more");
        Run r = begun(5).due(0, "vote", 0, 1, 0, 0, 1).due(2, "next").due(1, "vote", 0, 1, 1, 0, 1).due(2, "vote", 0, 2, 0, 0, 1);
        r.due(3, "next").still(OUTSIDE, "vote", 0, 1, 2, 0, 1).due(3, "vote", 0, 2, 1, 0, 1).due(4, "vote", 0, 3, 0, 0, 1);

        says(6, "not OPEN any more: also one that was kept is OUTSIDE");
        r.still(OUTSIDE, "vote", 0, 1, 0, 0, 1);
    }

    private static void voteState() {
        says(6, "STATE: the NODE came later");
        Run r = begun(5);
        r.due(1, "node", 5).still(STATE, "vote", 1, 1, 0, 0, 1).due(2, "next").still(STATE, "vote", 1, 1, 0, 0, 1)
            .due(0, "vote", 1, 2, 0, 0, 1);

        says(6, "STATE: the NODE had no STAKE as the height began");
        Run poor = begun(5, 5).votes(new int[][] {{0, 1, 0, 0, 1}, {0, 1, 0, 0, 2}});
        poor.due(50, "set", 0, 1000).due(5, "accuse", TWICE, 0, 1, NONE).due(2, "vote", 0, 1, 0, 0, 3).due(2, "next")
            .still(STATE, "vote", 0, 2, 0, 0, 1).due(3, "vote", 0, 1, 0, 0, 4).due(1, "add", 0, 1)
            .still(STATE, "vote", 0, 2, 0, 0, 1).due(3, "next").still(STATE, "vote", 0, 2, 0, 0, 1).due(4, "vote", 0, 3, 0, 0, 1);

        says(6, "STATE: the NODE was OUT as the height began; before, it votes on");
        Run out = begun(5, 5).votes(new int[][] {{0, 1, 0, 0, 1}, {0, 1, 0, 0, 2}});
        out.due(0, "set", 4, MOST).due(0, "accuse", TWICE, 0, 1, NONE).due(1, "holds", 0, 2).due(2, "vote", 0, 1, 0, 0, 3)
            .due(2, "next").due(3, "vote", 0, 1, 0, 0, 4).still(STATE, "vote", 0, 2, 0, 0, 1).due(100, "add", 0, 95)
            .due(3, "next").still(STATE, "vote", 0, 3, 0, 0, 1).due(4, "vote", 1, 3, 0, 0, 1);
    }

    private static void voteRoom() {
        says(6, "VOTES 0, 1, .. (300 at most)");
        Run r = full();
        r.due(300, "about", 2).due(2, "said", 299, 1).due(9, "said", 299, 4).due(UNKNOWN, "said", 300, 0);
        r.still(ROOM, "vote", 0, 2, 7, 0, 0).still(ROOM, "vote", 1, 1, 0, 0, 1).still(ROOM, "vote", 1, 2, 7, 1, 9);

        says(6, "its number, also if it was kept already and no ROOM is left");
        r.still(0, "vote", 0, 1, 0, 0, 0).still(299, "vote", 0, 2, 6, 1, 9).still(160, "vote", 0, 2, 0, 0, 0);

        says(6, "no ROOM at the next height either");
        r.due(3, "next").still(ROOM, "vote", 0, 3, 0, 0, 0).still(ROOM, "vote", 2, 3, 0, 0, 0).still(299, "vote", 0, 2, 6, 1, 9);

        says(6, "one place left: the 300th is kept, the 301st is not");
        Run last = begun(5, 5);
        for (int i = 0; i < 299; i++) {
            last.call("vote", i / 160, 1, i % 160 / 20, i / 10 % 2, i % 10);
        }
        last.due(299, "about", 2).due(299, "vote", 1, 1, 7, 1, 9).still(299, "vote", 1, 1, 7, 1, 9)
            .still(ROOM, "vote", 1, 1, 7, 1, 8).due(300, "about", 2);
    }

    private static void voteTwoAtOnce() {
        says(6, "UNKNOWN comes before OUTSIDE");
        begun(5).still(UNKNOWN, "vote", 1, 0, 0, 0, 1).still(UNKNOWN, "vote", 1, 2, 0, 0, 1).still(UNKNOWN, "vote", 1, 1, 8, 0, 1)
            .still(UNKNOWN, "vote", NONE, 1, 0, 2, 1).still(UNKNOWN, "vote", 1, 1, 0, 0, 10)
            .still(UNKNOWN, "vote", Integer.MIN_VALUE, Integer.MIN_VALUE, Integer.MIN_VALUE, Integer.MIN_VALUE, Integer.MIN_VALUE)
            .still(UNKNOWN, "vote", Integer.MAX_VALUE, Integer.MAX_VALUE, Integer.MAX_VALUE, Integer.MAX_VALUE, Integer.MAX_VALUE);

        says(6, "OUTSIDE comes before STATE");
        Run r = begun(5);
        r.due(1, "node", 5).still(OUTSIDE, "vote", 1, 0, 0, 0, 1).still(OUTSIDE, "vote", 1, 2, 0, 0, 1)
            .still(OUTSIDE, "vote", 1, 1, 8, 0, 1).still(OUTSIDE, "vote", 1, 1, 0, 2, 1).still(OUTSIDE, "vote", 1, 1, 0, 0, 10)
            .still(OUTSIDE, "vote", 1, 1, -1, 0, 1).still(OUTSIDE, "vote", 1, 1, 0, -1, 1).still(OUTSIDE, "vote", 1, 1, 0, 0, -1);

        says(6, "UNKNOWN, OUTSIDE and STATE come before ROOM");
        full().still(UNKNOWN, "vote", 3, 1, 0, 0, 0).still(UNKNOWN, "vote", NONE, 1, 0, 0, 0)
            .still(OUTSIDE, "vote", 1, 0, 0, 0, 0).still(OUTSIDE, "vote", 1, 3, 0, 0, 0).still(OUTSIDE, "vote", 1, 1, 8, 0, 0)
            .still(OUTSIDE, "vote", 1, 1, 0, 2, 0).still(OUTSIDE, "vote", 1, 1, 0, 0, 10).still(STATE, "vote", 2, 1, 0, 0, 0)
            .still(STATE, "vote", 2, 2, 0, 0, 0);
    }

    // ---- 7

    private static void mayRefusals() {
        says(7, "UNKNOWN (node)");
        begun(5, 5).stillOutside(UNKNOWN, 0, 0, 1, "may", 0, 1, 0, 0, 1);

        says(7, "OUTSIDE (round, step, block), and the ends inside");
        begun(5).stillOutside(OUTSIDE, 2, 0, 7, "may", 0, 1, 0, 0, 1).stillOutside(OUTSIDE, 3, 0, 1, "may", 0, 1, 0, 0, 1)
            .stillOutside(OUTSIDE, 4, 0, 9, "may", 0, 1, 0, 0, 1).still(1, "may", 0, 1, 0, 0, 0).still(1, "may", 0, 1, 7, 1, 0)
            .still(1, "may", 0, 1, 7, 0, 9);

        says(7, "OUTSIDE (height)");
        nodes(5).still(OUTSIDE, "may", 0, 0, 0, 0, 1).still(OUTSIDE, "may", 0, 1, 0, 0, 1);
        begun(5).stillOutside(OUTSIDE, 1, 1, 1, "may", 0, 1, 0, 0, 1);
        begun(5).forward(2).stillOutside(OUTSIDE, 1, 2, 3, "may", 0, 2, 0, 0, 1).still(1, "may", 0, 2, 0, 0, 1)
            .still(1, "may", 0, 3, 0, 0, 1);

        says(7, "STATE");
        Run r = begun(5);
        r.due(1, "node", 5).still(STATE, "may", 1, 1, 0, 0, 1).due(2, "next").still(STATE, "may", 1, 1, 0, 0, 1).still(1, "may", 1, 2, 0, 0, 1);

        says(7, "UNKNOWN comes before OUTSIDE, OUTSIDE before STATE");
        begun(5).still(UNKNOWN, "may", 1, 0, 0, 0, 1).still(UNKNOWN, "may", 1, 1, 8, 0, 1).still(UNKNOWN, "may", NONE, 1, 0, 2, 1)
            .still(UNKNOWN, "may", 1, 1, 0, 0, 10);
        Run late = begun(5);
        late.due(1, "node", 5).still(OUTSIDE, "may", 1, 2, 0, 0, 1).still(OUTSIDE, "may", 1, 1, 8, 0, 1)
            .still(OUTSIDE, "may", 1, 1, 0, 2, 1).still(OUTSIDE, "may", 1, 1, 0, 0, 10);

        says(7, "but for ROOM");
        full().still(1, "may", 1, 1, 0, 0, 0).still(1, "may", 0, 2, 7, 0, 0).still(0, "may", 1, 1, 0, 1, 1)
            .still(0, "may", 0, 1, 0, 0, 0).still(STATE, "may", 2, 1, 0, 0, 0).still(OUTSIDE, "may", 1, 3, 0, 0, 0)
            .still(UNKNOWN, "may", 3, 1, 0, 0, 0);
    }

    private static void mayKinds() {
        says(7, "0 for TWICE, in either step, also with the BLOCK 0");
        Run r = begun(1, 1, 1).votes(new int[][] {{0, 1, 0, 0, 4}, {0, 1, 0, 1, 0}});
        r.still(0, "may", 0, 1, 0, 0, 0).still(0, "may", 0, 1, 0, 0, 5).still(1, "may", 0, 1, 0, 0, 4)
            .still(0, "may", 0, 1, 0, 1, 4).still(1, "may", 0, 1, 1, 0, 5).still(1, "may", 1, 1, 0, 0, 5);

        says(7, "0 for BARE until the BLOCK is BACKED in this ROUND");
        r = begun(1, 1, 1).still(0, "may", 0, 1, 0, 1, 1).still(1, "may", 0, 1, 0, 1, 0).votes(new int[][] {{0, 1, 0, 0, 1}, {1, 1, 0, 0, 1}});
        r.still(0, "may", 0, 1, 0, 1, 1).votes(new int[] {2, 1, 0, 0, 1}).still(1, "may", 0, 1, 0, 1, 1)
            .still(0, "may", 0, 1, 1, 1, 1).still(0, "may", 0, 1, 0, 1, 2);

        says(7, "one that was kept already: that it makes none");
        r = begun(1, 1, 1).votes(new int[][] {{0, 1, 0, 0, 1}, {0, 1, 3, 1, 2}});
        r.still(1, "may", 0, 1, 0, 0, 1).still(0, "may", 0, 1, 3, 1, 2).votes(new int[] {0, 1, 0, 0, 3});
        r.still(0, "may", 0, 1, 0, 0, 1).still(0, "may", 0, 1, 0, 0, 3);

        says(7, "one that was kept already makes none any more when the BLOCK is BACKED");
        r.votes(new int[][] {{0, 1, 3, 0, 2}, {1, 1, 3, 0, 2}, {2, 1, 3, 0, 2}}).still(1, "may", 0, 1, 3, 1, 2);

        says(7, "a BREAK of other VOTES does not count");
        r.due(1, "named", 1).still(1, "may", 0, 1, 5, 0, 2).still(1, "may", 1, 1, 0, 0, 2).still(1, "may", 0, 1, 5, 1, 0);
    }

    private static void mayRounds() {
        says(7, "0 for LOCK, the VOTE being the later one or the first one");
        Run r = begun(1, 1, 1, 1).votes(new int[][] {{0, 1, 2, 0, 5}, {1, 1, 2, 0, 5}, {2, 1, 2, 0, 5}, {0, 1, 2, 1, 5}, {3, 1, 3, 0, 6}});
        r.still(0, "may", 0, 1, 3, 0, 6).still(0, "may", 0, 1, 7, 0, 9).still(0, "may", 3, 1, 2, 1, 5);

        says(7, "1 in the same or an earlier ROUND, for the same BLOCK, for none, of another NODE or height");
        r.still(1, "may", 0, 1, 1, 0, 6).still(1, "may", 0, 1, 0, 0, 6).still(1, "may", 0, 1, 3, 0, 5).still(1, "may", 0, 1, 3, 0, 0)
            .still(1, "may", 1, 1, 3, 0, 6).still(1, "may", 3, 1, 2, 0, 6).due(2, "next").still(1, "may", 0, 2, 3, 0, 6);

        says(7, "this one too does not help itself: it backs in its own ROUND only");
        Run alone = begun(1).votes(new int[][] {{0, 1, 0, 0, 1}, {0, 1, 0, 1, 1}});
        alone.still(0, "may", 0, 1, 1, 0, 2).votes(new int[] {0, 1, 1, 0, 2}).due(1, "backed", 1, 1, 0, 2)
            .still(0, "may", 0, 1, 1, 0, 2).still(1, "may", 0, 1, 2, 0, 2).still(0, "may", 0, 1, 2, 0, 3);
    }

    // ---- 8

    private static void accuseRefusals() {
        says(8, "UNKNOWN (a)");
        for (int kind = 0; kind < 3; kind++) {
            threeKinds().forward(2).stillOutside(UNKNOWN, 1, 0, 3, "accuse", kind, 0, 2, NONE);
        }

        says(8, "UNKNOWN (b), of TWICE and LOCK");
        for (int kind = 0; kind < 2; kind++) {
            threeKinds().forward(2).stillOutside(UNKNOWN, 2, 0, 3, "accuse", kind, 0, 2, NONE);
        }

        says(8, "of BARE b is not looked at");
        for (long b : outside(0, 3)) {
            threeKinds().forward(2).due(200, "accuse", BARE, 0, b, NONE).due(NONE, "taken", 0, 2);
        }

        says(8, "UNKNOWN (by): a NODE or NONE");
        for (int kind = 0; kind < 3; kind++) {
            threeKinds().forward(2).stillOutside(UNKNOWN, 3, -1, 2, "accuse", kind, 0, kind + 1, NONE)
                .still(UNKNOWN, "accuse", kind, 0, kind + 1, 3).still(UNKNOWN, "accuse", kind, 0, kind + 1, -2);
        }

        says(8, "by NONE, by the first and the last NODE");
        for (int by = -1; by < 3; by++) {
            threeKinds().due(50, "accuse", TWICE, 0, 1, by).due(by, "taken", 0, 3);
        }

        says(8, "OUTSIDE (kind)");
        threeKinds().forward(2).stillOutside(OUTSIDE, 0, 0, 2, "accuse", 0, 0, 1, NONE);

        says(8, "OUTSIDE (kind; b is looked at then)");
        for (long kind : outside(0, 2)) {
            threeKinds().forward(2).still(UNKNOWN, "accuse", kind, 0, 4, NONE).still(UNKNOWN, "accuse", kind, 0, NONE, 0);
        }
    }

    private static void accuseTwoAtOnce() {
        says(8, "UNKNOWN (a, by) comes before OUTSIDE");
        threeKinds().still(UNKNOWN, "accuse", 3, 4, 1, NONE).still(UNKNOWN, "accuse", -1, NONE, 1, NONE)
            .still(UNKNOWN, "accuse", 3, 0, 1, 3).still(UNKNOWN, "accuse", -1, 0, 1, -2)
            .still(UNKNOWN, "accuse", Integer.MIN_VALUE, Integer.MIN_VALUE, Integer.MIN_VALUE, Integer.MIN_VALUE)
            .still(UNKNOWN, "accuse", Integer.MAX_VALUE, Integer.MAX_VALUE, Integer.MAX_VALUE, Integer.MAX_VALUE);

        says(8, "UNKNOWN comes before NOT");
        threeKinds().forward(2).still(UNKNOWN, "accuse", TWICE, 0, 0, 3).still(UNKNOWN, "accuse", LOCK, 2, 0, -2)
            .still(UNKNOWN, "accuse", BARE, 2, 0, 3).still(UNKNOWN, "accuse", TWICE, 3, 4, NONE);

        says(8, "UNKNOWN comes before EARLY");
        threeKinds().still(UNKNOWN, "accuse", LOCK, 0, 2, 3).still(UNKNOWN, "accuse", BARE, 0, 0, 3);

        says(8, "UNKNOWN comes before LATE");
        threeKinds().forward(11).still(UNKNOWN, "accuse", TWICE, 0, 1, 3).still(UNKNOWN, "accuse", LOCK, 0, 2, 3)
            .still(UNKNOWN, "accuse", BARE, 0, 0, -2).still(UNKNOWN, "accuse", LOCK, 0, 4, 0);

        says(8, "UNKNOWN comes before DONE");
        threeKinds().due(50, "accuse", TWICE, 0, 1, NONE).still(UNKNOWN, "accuse", TWICE, 0, 1, 3).still(UNKNOWN, "accuse", TWICE, 0, 4, 1);

        says(8, "OUTSIDE comes before NOT, LATE and DONE");
        threeKinds().due(50, "accuse", TWICE, 0, 1, NONE).still(OUTSIDE, "accuse", 3, 0, 0, 1).still(OUTSIDE, "accuse", -1, 0, 1, NONE)
            .forward(11).still(OUTSIDE, "accuse", 3, 0, 1, NONE);

        says(8, "NOT comes before EARLY");
        threeKinds().still(NOT, "accuse", LOCK, 1, 2, 1).still(NOT, "accuse", LOCK, 0, 1, 1).still(NOT, "accuse", BARE, 3, 0, 1);

        says(8, "NOT comes before LATE");
        threeKinds().forward(11).still(NOT, "accuse", TWICE, 0, 2, 1).still(NOT, "accuse", LOCK, 1, 2, 1).still(NOT, "accuse", BARE, 2, 0, 1);

        says(8, "NOT comes before DONE");
        threeKinds().forward(2).due(50, "accuse", TWICE, 0, 1, 1).due(95, "accuse", LOCK, 0, 2, 1).due(171, "accuse", BARE, 0, 2, 1)
            .still(NOT, "accuse", TWICE, 0, 0, 1).still(NOT, "accuse", LOCK, 2, 0, 1).still(NOT, "accuse", BARE, 2, 0, 1);

        says(8, "LATE comes before DONE");
        threeKinds().forward(2).due(50, "accuse", TWICE, 0, 1, 1).due(95, "accuse", LOCK, 0, 2, 1).due(171, "accuse", BARE, 0, 2, 1)
            .still(DONE, "accuse", TWICE, 0, 1, 1).still(DONE, "accuse", LOCK, 0, 2, 1).still(DONE, "accuse", BARE, 1, 2, 1)
            .forward(9).still(LATE, "accuse", TWICE, 0, 1, 1).still(LATE, "accuse", LOCK, 0, 2, 1).still(LATE, "accuse", BARE, 1, 2, 1);
    }

    private static void accuseNoBreak() {
        says(8, "NOT: TWICE of a VOTE and itself, of another ROUND, STEP, NODE or height");
        Run r = begun(9, 9).votes(new int[][] {{0, 1, 0, 0, 1}, {0, 1, 1, 0, 2}, {0, 1, 0, 1, 2}, {1, 1, 0, 0, 2}}).forward(1)
            .votes(new int[] {0, 2, 0, 0, 2});
        for (int other = 0; other <= 4; other++) {
            r.still(NOT, "accuse", TWICE, 0, other, 1).still(NOT, "accuse", TWICE, other, 0, 1);
        }

        says(8, "of TWICE in either order");
        threeKinds().due(50, "accuse", TWICE, 0, 1, 1).due(0, "taken", 0, 1).due(1, "taken", 0, 2);
        threeKinds().due(50, "accuse", TWICE, 1, 0, 1).due(0, "taken", 0, 1).due(1, "taken", 0, 2);

        says(8, "of LOCK a is the one in STEP 1, in this order only");
        threeKinds().forward(2).still(NOT, "accuse", LOCK, 2, 0, 1).due(100, "accuse", LOCK, 0, 2, 1).due(0, "taken", 0, 1).due(2, "taken", 0, 2);

        says(8, "of LOCK a may have the greater number");
        begun(1000).votes(new int[][] {{0, 1, 4, 0, 2}, {0, 1, 3, 1, 1}}).forward(2).still(NOT, "accuse", LOCK, 0, 1, NONE)
            .due(100, "accuse", LOCK, 1, 0, NONE).due(1, "taken", 0, 1).due(0, "taken", 0, 2);

        says(8, "NOT: one kind is not another one");
        threeKinds().forward(2).still(NOT, "accuse", TWICE, 0, 2, 1).still(NOT, "accuse", LOCK, 0, 1, 1).still(NOT, "accuse", BARE, 2, 1, 1);

        says(8, "NOT: BARE for none, or BACKED by the VOTES so far");
        begun(9, 9).votes(new int[][] {{0, 1, 0, 1, 0}, {0, 1, 1, 1, 1}, {0, 1, 1, 0, 1}, {1, 1, 1, 0, 1}}).forward(2)
            .still(NOT, "accuse", BARE, 0, 0, 1).still(NOT, "accuse", BARE, 1, 0, 1);

        says(8, "NOT: LOCK, the other BLOCK being BACKED by the VOTES so far");
        begun(10, 1).votes(new int[][] {{1, 1, 0, 1, 1}, {1, 1, 2, 0, 2}}).still(EARLY, "accuse", LOCK, 0, 1, NONE).forward(1)
            .votes(new int[] {0, 1, 1, 0, 2}).still(NOT, "accuse", LOCK, 0, 1, NONE).forward(1).still(NOT, "accuse", LOCK, 0, 1, NONE);
    }

    private static void accuseTimes() {
        says(8, "TWICE from its height on");
        threeKinds().due(50, "accuse", TWICE, 0, 1, 1).due(1, "taken", 0, 4);
        threeKinds().forward(1).due(50, "accuse", TWICE, 0, 1, 1).due(2, "taken", 0, 4);

        says(8, "LOCK when the height is not OPEN any more");
        threeKinds().still(EARLY, "accuse", LOCK, 0, 2, 1).forward(1).still(EARLY, "accuse", LOCK, 0, 2, 1).forward(1)
            .due(100, "accuse", LOCK, 0, 2, 1).due(3, "taken", 0, 4);

        says(8, "BARE when the height is not OPEN any more");
        threeKinds().still(EARLY, "accuse", BARE, 0, 2, 1).forward(1).still(EARLY, "accuse", BARE, 0, 2, 1).forward(1)
            .due(200, "accuse", BARE, 0, 2, 1).due(3, "taken", 0, 4);

        says(8, "the heights 39 and 40 are OPEN for good: EARLY");
        Run r = begun(1000).forward(38).votes(new int[][] {{0, 39, 0, 1, 1}, {0, 39, 1, 0, 2}}).forward(1)
            .votes(new int[][] {{0, 40, 0, 1, 1}, {0, 40, 1, 0, 2}, {0, 40, 1, 0, 3}});
        r.still(ROOM, "next").still(EARLY, "accuse", LOCK, 0, 1, NONE).still(EARLY, "accuse", BARE, 0, 1, NONE)
            .still(EARLY, "accuse", LOCK, 2, 3, NONE).still(EARLY, "accuse", BARE, 2, 3, NONE).due(50, "accuse", TWICE, 3, 4, NONE);

        says(8, "height 38 is not OPEN at 40");
        begun(1000).forward(37).votes(new int[] {0, 38, 0, 1, 1}).forward(1).still(EARLY, "accuse", BARE, 0, 0, NONE).forward(1)
            .due(200, "accuse", BARE, 0, 0, NONE).due(40, "taken", 0, 4);
    }

    private static void accuseSpan() {
        says(8, "as long as HEIGHT is at most SPAN above its height: 10 at first");
        for (int kind = 0; kind < 3; kind++) {
            long cost = kind == TWICE ? 50 : kind * 100;
            threeKinds().forward(10).due(cost, "accuse", kind, 0, kind == TWICE ? 1 : 2, 1).due(11, "taken", 0, 4);
            threeKinds().forward(11).still(LATE, "accuse", kind, 0, kind == TWICE ? 1 : 2, 1);
        }

        says(8, "the least SPAN, 2: LOCK and BARE have one height");
        Run r = threeKinds();
        r.due(10, "set", 3, 2).forward(1).still(EARLY, "accuse", LOCK, 0, 2, 1).still(EARLY, "accuse", BARE, 0, 2, 1).forward(1)
            .due(100, "accuse", LOCK, 0, 2, 1).due(180, "accuse", BARE, 0, 2, 1).forward(1).still(LATE, "accuse", TWICE, 0, 1, 1);

        says(8, "the greatest SPAN, 20");
        r = threeKinds();
        r.due(10, "set", 3, 20).forward(20).due(50, "accuse", TWICE, 0, 1, 1).due(95, "accuse", LOCK, 0, 2, 1).due(21, "taken", 1, 4)
            .forward(1).still(LATE, "accuse", BARE, 0, 2, 1);

        says(8, "by the SPAN there is now, not that of then");
        threeKinds().forward(11).still(LATE, "accuse", BARE, 0, 2, 1).due(10, "set", 3, 11).due(200, "accuse", BARE, 0, 2, 1)
            .due(11, "set", 3, 10).still(LATE, "accuse", TWICE, 0, 1, 1);
    }

    private static void accuseOnce() {
        says(8, "DONE: of a NODE and a height one of each kind at most");
        Run r = begun(1000, 1000).votes(new int[][] {{0, 1, 0, 1, 1}, {0, 1, 0, 1, 2}, {0, 1, 7, 0, 3}, {0, 1, 7, 0, 4},
            {1, 1, 0, 1, 1}, {1, 1, 0, 1, 2}, {1, 1, 7, 0, 3}}).forward(1).votes(new int[][] {{0, 2, 0, 1, 1}, {0, 2, 0, 1, 2}, {0, 2, 7, 0, 3}}).forward(2);
        r.due(50, "accuse", TWICE, 0, 1, 1).still(DONE, "accuse", TWICE, 0, 1, 1).still(DONE, "accuse", TWICE, 1, 0, NONE)
            .still(DONE, "accuse", TWICE, 2, 3, 1).still(DONE, "accuse", TWICE, 3, 2, 0);
        r.due(95, "accuse", LOCK, 0, 2, 1).still(DONE, "accuse", LOCK, 0, 2, 0).still(DONE, "accuse", LOCK, 0, 3, 1).still(DONE, "accuse", LOCK, 1, 2, 1);
        r.due(171, "accuse", BARE, 1, 0, 1).still(DONE, "accuse", BARE, 1, 0, 1).still(DONE, "accuse", BARE, 0, 0, 1);

        says(8, "another NODE has its own");
        r.due(50, "accuse", TWICE, 4, 5, 1).due(95, "accuse", LOCK, 4, 6, 1).due(171, "accuse", BARE, 4, 0, 1).still(DONE, "accuse", BARE, 5, 0, 1);

        says(8, "another height has its own");
        r.due(34, "accuse", TWICE, 7, 8, 1).due(65, "accuse", LOCK, 7, 9, 1).due(117, "accuse", BARE, 8, 0, 1).still(DONE, "accuse", BARE, 7, 0, 1);

        says(8, "what COSTS 0 is TAKEN too");
        r = threeKinds();
        r.due(50, "set", 0, 0).due(0, "accuse", TWICE, 0, 1, 1).due(1, "about", 3).due(0, "set", 0, 50).still(DONE, "accuse", TWICE, 0, 1, 1);
    }

    /** A node with this stake, TWICE at this rate. */
    private static Run twiceAt(long stake, long rate) {
        Run r = begun(stake, 1).votes(new int[][] {{0, 1, 0, 0, 1}, {0, 1, 0, 0, 2}});
        r.call("set", 0, rate);
        return r;
    }

    private static void accuseCosts() {
        says(8, "STAKE times RATE, divided by 1000, cut");
        long[][] rows = {{1, 0, 0}, {1, 1, 0}, {1, 999, 0}, {1, 1000, 1}, {2, 500, 1}, {2, 499, 0}, {3, 500, 1}, {19, 50, 0}, {20, 50, 1},
            {39, 50, 1}, {40, 50, 2}, {999, 1, 0}, {1000, 1, 1}, {1999, 1, 1}, {MOST, 0, 0}, {MOST, 1, 1000000}, {MOST, 999, 999000000},
            {MOST, 1000, MOST}, {MOST - 1, 999, 998999999}, {MOST - 1, 1, 999999}, {MOST - 1, 1000, MOST - 1}};
        for (long[] row : rows) {
            twiceAt(row[0], row[1]).due(row[2], "accuse", TWICE, 0, 1, NONE).due(row[0] - row[2], "holds", 0, 0)
                .due(row[2], "about", 4).due(row[2], "taken", 0, 5).due(row[0], "weight", 1, 0);
        }

        says(8, "each kind has its RATE; the STAKE is that of now");
        Run r = threeKinds();
        r.due(50, "set", 0, 1).due(100, "set", 1, 500).due(200, "set", 2, 1000).forward(2).due(1, "accuse", TWICE, 0, 1, NONE)
            .due(499, "accuse", LOCK, 0, 2, NONE).due(500, "accuse", BARE, 0, 0, NONE).due(0, "holds", 0, 0);

        says(8, "what was added since costs, too");
        threeKinds().due(2000, "add", 0, 1000).due(100, "accuse", TWICE, 0, 1, NONE).due(1900, "holds", 0, 0);

        says(8, "of a STAKE of 0 nothing goes");
        r = threeKinds();
        r.due(50, "set", 0, 1000).due(1000, "accuse", TWICE, 0, 1, 1).forward(2).due(0, "accuse", LOCK, 0, 2, 1)
            .due(0, "accuse", BARE, 0, 2, 1).due(3, "about", 3).due(900, "about", 4).due(100, "holds", 1, 1);
    }

    private static void accuseRewards() {
        says(8, "a tenth of that, cut, comes into the PURSE; the rest is BURNT");
        long[][] rows = {{1, 1, 0}, {9, 9, 0}, {10, 10, 1}, {19, 19, 1}, {20, 20, 2}, {MOST - 1, MOST - 1, 99999999}, {MOST, MOST, 100000000}};
        for (long[] row : rows) {
            twiceAt(row[0], 1000).due(row[1], "accuse", TWICE, 0, 1, 1).due(row[2], "holds", 1, 1).due(row[1] - row[2], "about", 4)
                .due(row[2], "taken", 0, 6).due(1, "holds", 1, 0).due(0, "holds", 0, 1);
        }

        says(8, "if there is one: by NONE all is BURNT");
        twiceAt(1000, 1000).due(1000, "accuse", TWICE, 0, 1, NONE).due(1000, "about", 4).due(0, "holds", 0, 1).due(0, "holds", 1, 1).due(0, "taken", 0, 6);

        says(8, "the NODE itself may accuse");
        twiceAt(1000, 500).due(500, "accuse", TWICE, 0, 1, 0).due(50, "holds", 0, 1).due(500, "holds", 0, 0).due(450, "about", 4);

        says(8, "a NODE that came later may accuse");
        Run r = twiceAt(1000, 100);
        r.due(2, "node", 1).due(100, "accuse", TWICE, 0, 1, 2).due(10, "holds", 2, 1);

        says(8, "what is BURNT and a PURSE may be above an int");
        r = begun(MOST, 1);
        r.call("set", 0, 1000);
        for (int i = 0; i < 22; i++) {
            r.votes(new int[][] {{0, i + 1, 0, 0, 1}, {0, i + 1, 0, 0, 2}});
            r.due(MOST, "accuse", TWICE, 2 * i, 2 * i + 1, 1).due(MOST, "add", 0, MOST).due(i + 2, "next");
        }
        r.due(2200000000L, "holds", 1, 1).due(19800000000L, "about", 4).due(22, "holds", 0, 3);
    }

    private static void accuseLeast() {
        says(8, "below LEAST: the STAKE behind the COST, not the one before");
        Run r = threeKinds();
        r.due(0, "set", 4, 950).due(50, "accuse", TWICE, 0, 1, NONE).due(0, "holds", 0, 2);
        r = threeKinds();
        r.due(0, "set", 4, 951).due(50, "accuse", TWICE, 0, 1, NONE).due(1, "holds", 0, 2).due(0, "holds", 1, 2);

        says(8, "LEAST 0: a STAKE of 0 is not below it");
        twiceAt(7, 1000).due(7, "accuse", TWICE, 0, 1, NONE).due(0, "holds", 0, 2);

        says(8, "LEAST 1: a STAKE of 0 is below it, a STAKE of 1 is not");
        r = twiceAt(7, 1000);
        r.due(0, "set", 4, 1).due(7, "accuse", TWICE, 0, 1, NONE).due(1, "holds", 0, 2);
        r = twiceAt(2, 500);
        r.due(0, "set", 4, 1).due(1, "accuse", TWICE, 0, 1, NONE).due(0, "holds", 0, 2);

        says(8, "the greatest LEAST: 1000000000 is not below it");
        r = twiceAt(MOST, 0);
        r.due(0, "set", 4, MOST).due(0, "accuse", TWICE, 0, 1, NONE).due(0, "holds", 0, 2);
        r = twiceAt(MOST - 1, 0);
        r.due(0, "set", 4, MOST).due(0, "accuse", TWICE, 0, 1, NONE).due(1, "holds", 0, 2);

        says(8, "a refused accusation puts nobody OUT");
        r = threeKinds();
        r.due(0, "set", 4, MOST).still(EARLY, "accuse", BARE, 0, 0, 1).still(NOT, "accuse", TWICE, 0, 0, 1).due(0, "holds", 0, 2);

        says(8, "OUT, for good: no STAKE and no LEAST brings it back");
        r = twiceAt(1000, 1);
        r.due(0, "set", 4, 1000).due(1, "accuse", TWICE, 0, 1, NONE).due(1, "holds", 0, 2).due(1000, "set", 4, 0).due(MOST, "add", 0, MOST - 999)
            .due(1, "holds", 0, 2).due(1000, "weight", 1, 0).due(2, "next").due(0, "weight", 2, 0).due(1, "weight", 2, NONE).due(MOST, "holds", 0, 0);

        says(8, "OUT, it may accuse and be accused");
        r = threeKinds();
        r.due(0, "set", 4, MOST).due(50, "accuse", TWICE, 0, 1, NONE).due(1, "holds", 0, 2).due(MOST, "set", 4, 0).forward(2)
            .due(95, "accuse", LOCK, 0, 2, 0).due(9, "holds", 0, 1).due(1, "holds", 0, 2);

        says(4, "all are OUT: TOTAL is 0, and nobody votes");
        r = begun(5).votes(new int[][] {{0, 1, 0, 0, 1}, {0, 1, 0, 0, 2}});
        r.due(0, "set", 4, MOST).due(0, "accuse", TWICE, 0, 1, NONE).due(2, "next").due(0, "weight", 2, NONE)
            .still(STATE, "vote", 0, 2, 0, 0, 1).due(NONE, "certain", 2, 0);
    }

    // ---- 9, 10, 11

    private static void about() {
        says(9, "OUTSIDE: what is not 0 .. 9");
        threeKinds().stillOutside(OUTSIDE, 0, 0, 9, "about", 0).still(1, "about", 0).still(0, "about", 9);

        says(9, "HEIGHT, NODES and VOTES at their most");
        Run r = full();
        for (int node = 3; node < 8; node++) {
            r.due(node, "node", 1);
        }
        r.forward(38).due(40, "about", 0).due(8, "about", 1).due(300, "about", 2).due(0, "about", 3);

        says(9, "what is refused is not counted");
        threeKinds().still(OUTSIDE, "node", 0).still(OUTSIDE, "vote", 0, 1, 8, 0, 0).still(NOT, "accuse", TWICE, 0, 0, NONE)
            .due(3, "about", 1).due(4, "about", 2).due(0, "about", 3).due(0, "about", 4);
    }

    private static void holds() {
        says(10, "UNKNOWN: NONE is no NODE here");
        begun(5, 6).stillOutside(UNKNOWN, 0, 0, 1, "holds", 0, 0).still(5, "holds", 0, 0).still(6, "holds", 1, 0);

        says(10, "OUTSIDE: what is not 0 .. 3");
        begun(5).stillOutside(OUTSIDE, 1, 0, 3, "holds", 0, 0).still(0, "holds", 0, 3);

        says(10, "UNKNOWN comes before OUTSIDE");
        begun(5).still(UNKNOWN, "holds", 1, 4).still(UNKNOWN, "holds", NONE, -1).still(UNKNOWN, "holds", Integer.MIN_VALUE, Integer.MIN_VALUE)
            .still(UNKNOWN, "holds", Integer.MAX_VALUE, Integer.MAX_VALUE);

        says(10, "how many BREAKS of it were TAKEN: of its own, not those that it accused, not those refused");
        threeKinds().forward(2).due(50, "accuse", TWICE, 0, 1, 1).due(95, "accuse", LOCK, 0, 2, 1).due(171, "accuse", BARE, 0, 2, 1)
            .still(DONE, "accuse", BARE, 1, 2, 1).due(3, "holds", 0, 3).due(0, "holds", 1, 3).due(0, "holds", 2, 3);

        says(10, "the eighth NODE holds, too");
        Run r = begun(1, 2, 3, 4, 5, 6, 7, 800).votes(new int[][] {{7, 1, 0, 0, 1}, {7, 1, 0, 0, 2}});
        r.due(0, "set", 4, 800).due(40, "accuse", TWICE, 0, 1, 7).due(760, "holds", 7, 0).due(4, "holds", 7, 1).due(1, "holds", 7, 2)
            .due(1, "holds", 7, 3).still(UNKNOWN, "holds", 8, 0);
    }

    private static void said() {
        says(11, "UNKNOWN: no such VOTE");
        threeKinds().stillOutside(UNKNOWN, 0, 0, 3, "said", 0, 0);

        says(11, "OUTSIDE: what is not 0 .. 4");
        threeKinds().stillOutside(OUTSIDE, 1, 0, 4, "said", 0, 0).still(0, "said", 0, 0).still(1, "said", 0, 4);

        says(11, "UNKNOWN comes before OUTSIDE");
        threeKinds().still(UNKNOWN, "said", 4, 5).still(UNKNOWN, "said", -1, -1).still(UNKNOWN, "said", Integer.MIN_VALUE, Integer.MIN_VALUE)
            .still(UNKNOWN, "said", Integer.MAX_VALUE, Integer.MAX_VALUE);

        says(11, "the least and the greatest of each number");
        Run r = begun(1, 1, 1, 1, 1, 1, 1, 1).votes(new int[] {0, 1, 0, 0, 0}).forward(39).votes(new int[] {7, 40, 7, 1, 9});
        long[][] want = {{0, 1, 0, 0, 0}, {7, 40, 7, 1, 9}};
        for (int vote = 0; vote < 2; vote++) {
            for (int what = 0; what < 5; what++) {
                r.due(want[vote][what], "said", vote, what);
            }
        }

        says(11, "the last of 300");
        full().due(0, "said", 299, 0).due(2, "said", 299, 1).due(6, "said", 299, 2).due(1, "said", 299, 3).due(9, "said", 299, 4)
            .still(UNKNOWN, "said", 300, 0);
    }

    // ---- 12, 13

    private static void weight() {
        says(12, "UNKNOWN (node), NONE: TOTAL");
        begun(5, 6).stillOutside(UNKNOWN, 1, -1, 1, "weight", 1, 0).still(11, "weight", 1, NONE).still(5, "weight", 1, 0).still(6, "weight", 1, 1);

        says(12, "OUTSIDE (height: 1 .. HEIGHT)");
        nodes(5).still(OUTSIDE, "weight", 0, 0).still(OUTSIDE, "weight", 1, 0).still(OUTSIDE, "weight", 0, NONE);
        begun(5).stillOutside(OUTSIDE, 0, 1, 1, "weight", 1, 0).stillOutside(OUTSIDE, 0, 1, 1, "weight", 1, NONE);
        begun(5).forward(39).stillOutside(OUTSIDE, 0, 1, 40, "weight", 1, 0).still(5, "weight", 1, 0).still(5, "weight", 40, 0);

        says(12, "UNKNOWN comes before OUTSIDE");
        begun(5).still(UNKNOWN, "weight", 0, 1).still(UNKNOWN, "weight", 2, -2).still(UNKNOWN, "weight", Integer.MIN_VALUE, Integer.MIN_VALUE)
            .still(UNKNOWN, "weight", Integer.MAX_VALUE, Integer.MAX_VALUE);

        says(12, "TOTAL of eight times the most");
        begun(MOST, MOST, MOST, MOST, MOST, MOST, MOST, MOST).due(8 * MOST, "weight", 1, NONE).due(MOST, "weight", 1, 7);

        says(12, "its STAKE then: what it COST since does not count");
        twiceAt(1000, 1000).due(1000, "accuse", TWICE, 0, 1, 1).due(1000, "weight", 1, 0).due(1001, "weight", 1, NONE).due(2, "next")
            .due(0, "weight", 2, 0).due(1, "weight", 2, NONE);
    }

    private static void theMost() {
        says(14, "THE MOST: 3 times the WEIGHTS are more than 2 times TOTAL, not as much");
        long[][] rows = {{1, 1, 0}, {2, 1, 0}, {3, 1, 1}, {200, 100, 0}, {201, 100, 1}, {199, 100, 0}, {MOST, MOST / 2, 0}, {MOST, MOST / 2 - 1, 1},
            {MOST - 1, MOST / 2, 0}, {MOST, MOST, 0}, {666666666, 333333334, 0}, {666666667, 333333333, 1}, {MOST, 1, 1}, {1, MOST, 0}};
        for (long[] row : rows) {
            begun(row[0], row[1]).votes(new int[] {0, 1, 0, 1, 3}).due(row[2] == 1 ? 3 : NONE, "certain", 1, 0).due(1, "breaks", 1, BARE)
                .votes(new int[] {0, 1, 0, 0, 3}).due(1 - row[2], "breaks", 1, BARE).due(row[0], "backed", 1, 0, 0, 3);
        }

        says(14, "THE MOST of eight times the most: six of eight, not five");
        Run r = begun(MOST, MOST, MOST, MOST, MOST, MOST, MOST, MOST);
        for (int node = 0; node < 8; node++) {
            r.votes(new int[] {node, 1, 0, 1, 1}).due(node >= 5 ? 1 : NONE, "certain", 1, 0).due((node + 1) * MOST, "backed", 1, 0, 1, 1);
        }

        says(14, "one NODE alone has THE MOST");
        begun(1).votes(new int[] {0, 1, 0, 1, 1}).due(1, "certain", 1, 0);

        says(14, "TOTAL is of the height: who came later and what was added since do not count");
        r = begun(200, 100);
        r.due(201, "add", 0, 1).votes(new int[] {0, 1, 0, 1, 1}).due(NONE, "certain", 1, 0).due(2, "next").votes(new int[] {0, 2, 0, 1, 1})
            .due(1, "certain", 2, 0).due(NONE, "certain", 1, 0);
        r = begun(3, 1);
        r.due(2, "node", MOST).votes(new int[] {0, 1, 0, 1, 1}).due(1, "certain", 1, 0);

        says(14, "a VOTE that comes again weighs once");
        begun(2, 1).votes(new int[][] {{0, 1, 0, 1, 1}, {0, 1, 0, 1, 1}}).due(NONE, "certain", 1, 0).due(2, "backed", 1, 0, 1, 1);
    }

    private static void backed() {
        says(13, "OUTSIDE (height)");
        nodes(5).still(OUTSIDE, "backed", 0, 0, 0, 0).still(OUTSIDE, "backed", 1, 0, 0, 0);
        begun(5).stillOutside(OUTSIDE, 0, 1, 1, "backed", 1, 0, 0, 0);
        begun(5).forward(39).stillOutside(OUTSIDE, 0, 1, 40, "backed", 1, 0, 0, 0).still(0, "backed", 1, 0, 0, 0).still(0, "backed", 40, 0, 0, 0);

        says(13, "OUTSIDE (round, step, block)");
        threeKinds().stillOutside(OUTSIDE, 1, 0, 7, "backed", 1, 0, 0, 1).stillOutside(OUTSIDE, 2, 0, 1, "backed", 1, 0, 0, 1)
            .stillOutside(OUTSIDE, 3, 0, 9, "backed", 1, 0, 0, 1).still(1000, "backed", 1, 0, 0, 1);

        says(13, "a BLOCK (0, too), from the first spot to the last");
        Run r = begun(5, 7).votes(new int[][] {{0, 1, 0, 0, 0}, {1, 1, 0, 0, 0}, {1, 1, 7, 1, 9}, {0, 1, 7, 1, 0}});
        r.due(12, "backed", 1, 0, 0, 0).due(7, "backed", 1, 7, 1, 9).due(5, "backed", 1, 7, 1, 0).due(0, "backed", 1, 7, 0, 9)
            .due(0, "backed", 1, 6, 1, 9).due(0, "backed", 1, 7, 1, 8);

        says(13, "no VOTE there: 0");
        begun(5).due(0, "backed", 1, 0, 0, 0).due(0, "backed", 1, 7, 1, 9);

        says(13, "not OPEN any more, it is told all the same");
        begun(5).votes(new int[] {0, 1, 0, 0, 1}).forward(39).due(5, "backed", 1, 0, 0, 1).due(0, "backed", 2, 0, 0, 1);
    }

    // ---- 14

    private static void certain() {
        says(14, "OUTSIDE (height)");
        nodes(5).still(OUTSIDE, "certain", 0, 0).still(OUTSIDE, "certain", 1, 0);
        begun(5).stillOutside(OUTSIDE, 0, 1, 1, "certain", 1, 0);
        begun(5).forward(39).stillOutside(OUTSIDE, 0, 1, 40, "certain", 1, 0).still(NONE, "certain", 40, 0);

        says(14, "NONE: nothing is CERTAIN yet");
        begun(5).stillOutside(NONE, 1, 0, -1, "certain", 1, 0);

        says(14, "from the least on, all nine; NONE behind them and before");
        Run r = begun(5);
        for (int block = 9; block >= 0; block--) {
            r.votes(new int[] {0, 1, block % 8, 1, block});
        }
        for (int i = 0; i < 9; i++) {
            r.due(i + 1, "certain", 1, i);
        }
        r.stillOutside(NONE, 1, 0, 8, "certain", 1, 0);

        says(14, "OUTSIDE (height) comes before NONE");
        r.still(OUTSIDE, "certain", 0, 9).still(OUTSIDE, "certain", 2, -1).still(OUTSIDE, "certain", Integer.MIN_VALUE, Integer.MIN_VALUE);

        says(14, "BLOCK 0 is never CERTAIN, STEP 0 makes none so");
        begun(5).votes(new int[][] {{0, 1, 0, 1, 0}, {0, 1, 0, 0, 3}}).due(NONE, "certain", 1, 0);

        says(14, "in some ROUND: ROUNDS are not put together; one BLOCK of two ROUNDS is told once");
        r = begun(1, 1, 1).votes(new int[][] {{0, 1, 0, 1, 4}, {1, 1, 0, 1, 4}, {2, 1, 7, 1, 4}});
        r.due(NONE, "certain", 1, 0).votes(new int[][] {{0, 1, 7, 1, 4}, {1, 1, 7, 1, 4}}).due(4, "certain", 1, 0)
            .votes(new int[] {2, 1, 0, 1, 4}).due(4, "certain", 1, 0).due(NONE, "certain", 1, 1);

        says(14, "at a height: not at the next one");
        begun(5).votes(new int[] {0, 1, 0, 1, 4}).forward(1).due(4, "certain", 1, 0).due(NONE, "certain", 2, 0);
    }

    // ---- 15

    private static void breaksTwice() {
        says(15, "OUTSIDE (height, kind)");
        nodes(5).still(OUTSIDE, "breaks", 0, 0).still(OUTSIDE, "breaks", 1, 0);
        threeKinds().stillOutside(OUTSIDE, 0, 1, 1, "breaks", 1, 0).stillOutside(OUTSIDE, 1, 0, 2, "breaks", 1, 0).still(OUTSIDE, "breaks", 0, 3);
        begun(5).forward(39).stillOutside(OUTSIDE, 0, 1, 40, "breaks", 1, 0).still(0, "breaks", 40, 2);

        says(15, "TWICE: each two unlike BLOCKS of one spot, BLOCK 0 too, are one BREAK");
        Run r = begun(5);
        for (int block = 0; block < 10; block++) {
            r.votes(new int[] {0, 1, 7, 1, block}).due((block + 1) * block / 2, "breaks", 1, TWICE);
        }

        says(15, "TWICE: not of two NODES, heights, ROUNDS, STEPS, not of the same BLOCK");
        begun(5, 5).votes(new int[][] {{0, 1, 0, 0, 1}, {1, 1, 0, 0, 2}, {0, 1, 1, 0, 3}, {0, 1, 0, 1, 4}, {0, 1, 0, 0, 1}}).forward(1)
            .votes(new int[] {0, 2, 0, 0, 5}).due(0, "breaks", 1, TWICE).due(0, "breaks", 2, TWICE);

        says(15, "all 300 VOTES: 45 of each of the 30 spots");
        full().due(16 * 45, "breaks", 1, TWICE).due(14 * 45, "breaks", 2, TWICE);

        says(15, "TAKEN or not");
        threeKinds().due(1, "breaks", 1, TWICE).due(50, "accuse", TWICE, 0, 1, 1).due(1, "breaks", 1, TWICE).forward(39).due(1, "breaks", 1, TWICE);
    }

    private static void breaksLock() {
        says(15, "LOCK: not of BLOCK 0 in either VOTE, not of the same BLOCK");
        begun(1).votes(new int[][] {{0, 1, 0, 1, 0}, {0, 1, 1, 0, 3}}).due(0, "breaks", 1, LOCK);
        begun(1).votes(new int[][] {{0, 1, 0, 1, 3}, {0, 1, 1, 0, 0}}).due(0, "breaks", 1, LOCK);
        begun(1).votes(new int[][] {{0, 1, 0, 1, 3}, {0, 1, 1, 0, 3}}).due(0, "breaks", 1, LOCK);
        begun(1).votes(new int[][] {{0, 1, 0, 1, 1}, {0, 1, 1, 0, 9}}).due(1, "breaks", 1, LOCK);

        says(15, "LOCK: not of two NODES, not of two heights");
        begun(1, 1).votes(new int[][] {{0, 1, 0, 1, 1}, {1, 1, 1, 0, 2}}).forward(1).votes(new int[] {0, 2, 1, 0, 2})
            .due(0, "breaks", 1, LOCK).due(0, "breaks", 2, LOCK);

        says(15, "LOCK: the first in STEP 1, the other in STEP 0");
        begun(1).votes(new int[][] {{0, 1, 0, 0, 1}, {0, 1, 1, 0, 2}}).due(0, "breaks", 1, LOCK);
        begun(1).votes(new int[][] {{0, 1, 0, 1, 1}, {0, 1, 1, 1, 2}}).due(0, "breaks", 1, LOCK);
        begun(1).votes(new int[][] {{0, 1, 0, 0, 1}, {0, 1, 1, 1, 2}}).due(0, "breaks", 1, LOCK);

        says(15, "LOCK: two thirds do not back, a little more does");
        begun(2, 1).votes(new int[][] {{1, 1, 0, 1, 1}, {1, 1, 1, 0, 2}, {0, 1, 0, 0, 2}}).due(1, "breaks", 1, LOCK);
        begun(3, 1).votes(new int[][] {{1, 1, 0, 1, 1}, {1, 1, 1, 0, 2}, {0, 1, 0, 0, 2}}).due(0, "breaks", 1, LOCK);

        says(15, "LOCK: the other BLOCK must be BACKED, in STEP 0, at this height");
        begun(3, 1).votes(new int[][] {{1, 1, 0, 1, 1}, {1, 1, 1, 0, 2}, {0, 1, 0, 0, 3}, {0, 1, 0, 1, 2}}).forward(1)
            .votes(new int[] {0, 2, 0, 0, 2}).due(1, "breaks", 1, LOCK);
    }

    /** Node 0 has the most; node 1 votes in step 1 of a round and in step 0 of another one. */
    private static void breaksLockRounds() {
        says(15, "LOCK: BACKED in no ROUND from that of the first one on up to the one before that of the second one");
        for (int first = 0; first < 8; first++) {
            for (int second = 0; second < 8; second++) {
                for (int backing = -1; backing < 8; backing++) {
                    boolean isLock = second > first && (backing < first || backing >= second);
                    Run r = begun(10, 1);
                    if (backing >= 0) {
                        r.votes(new int[] {0, 1, backing, 0, 2});
                    }
                    r.votes(new int[] {1, 1, first, 1, 1}).due(isLock ? 0 : 1, "may", 1, 1, second, 0, 2)
                        .votes(new int[] {1, 1, second, 0, 2}).due(isLock ? 1 : 0, "breaks", 1, LOCK);
                }
            }
        }

        says(15, "by the VOTES kept so far: BACKED later, it is no BREAK any more");
        begun(10, 1).votes(new int[][] {{1, 1, 0, 1, 1}, {1, 1, 7, 0, 2}}).due(1, "breaks", 1, LOCK).votes(new int[] {0, 1, 7, 0, 2})
            .due(1, "breaks", 1, LOCK).votes(new int[] {0, 1, 6, 0, 2}).due(0, "breaks", 1, LOCK).due(NONE, "broken", 1, LOCK, 0, 0);
    }

    private static void breaksBare() {
        says(15, "BARE: BACKED in this ROUND alone helps");
        for (int round = 0; round < 8; round++) {
            for (int backing = 0; backing < 8; backing++) {
                begun(10, 1).votes(new int[][] {{0, 1, backing, 0, 9}, {1, 1, round, 1, 9}}).due(round == backing ? 0 : 1, "breaks", 1, BARE)
                    .due(round == backing ? 0 : 2, "named", 1);
            }
        }

        says(15, "BARE: not for none, not in STEP 0");
        begun(10, 1).votes(new int[][] {{1, 1, 0, 1, 0}, {1, 1, 0, 0, 1}}).due(0, "breaks", 1, BARE);

        says(15, "BARE: another BLOCK, another height, STEP 1 do not back it");
        begun(10, 1).votes(new int[][] {{1, 1, 0, 1, 5}, {0, 1, 0, 0, 4}, {0, 1, 0, 1, 0}}).forward(1).votes(new int[] {0, 2, 0, 0, 5})
            .due(1, "breaks", 1, BARE).due(0, "breaks", 2, BARE);

        says(15, "BARE: two BLOCKS may be BACKED in one ROUND, the lesser or the greater one first");
        begun(10, 1).votes(new int[][] {{0, 1, 0, 0, 1}, {0, 1, 0, 0, 9}, {1, 1, 0, 1, 1}, {1, 1, 0, 1, 9}}).due(0, "breaks", 1, BARE);
        begun(10, 1).votes(new int[][] {{0, 1, 0, 0, 9}, {0, 1, 0, 0, 1}, {1, 1, 0, 1, 1}, {1, 1, 0, 1, 9}}).due(0, "breaks", 1, BARE);

        says(15, "BARE: its own VOTES in STEP 1 do not back it, though CERTAIN");
        begun(10).votes(new int[] {0, 1, 0, 1, 5}).due(5, "certain", 1, 0).due(1, "breaks", 1, BARE);
    }

    // ---- 16

    private static void broken() {
        says(16, "OUTSIDE (height, kind, what)");
        nodes(5).still(OUTSIDE, "broken", 0, 0, 0, 0).still(OUTSIDE, "broken", 1, 0, 0, 0);
        threeKinds().stillOutside(OUTSIDE, 0, 1, 1, "broken", 1, 0, 0, 0).stillOutside(OUTSIDE, 1, 0, 2, "broken", 1, 0, 0, 0)
            .stillOutside(OUTSIDE, 3, 0, 1, "broken", 1, 0, 0, 0);
        begun(5).forward(39).stillOutside(OUTSIDE, 0, 1, 40, "broken", 1, 0, 0, 0).still(NONE, "broken", 40, 0, 0, 0);

        says(16, "OUTSIDE comes before NONE");
        threeKinds().still(OUTSIDE, "broken", 0, 0, 9, 0).still(OUTSIDE, "broken", 1, 3, -1, 0).still(OUTSIDE, "broken", 1, 0, 9, 2)
            .still(OUTSIDE, "broken", 1, 0, Integer.MIN_VALUE, -1);

        says(16, "NONE: there is none such, at all or behind the last one");
        for (int kind = 0; kind < 3; kind++) {
            begun(5).stillOutside(NONE, 2, 0, -1, "broken", 1, kind, 0, 0).stillOutside(NONE, 2, 0, -1, "broken", 1, kind, 0, 1);
            int last = kind == BARE ? 1 : 0;
            threeKinds().stillOutside(NONE, 2, 0, last, "broken", 1, kind, 0, 0).stillOutside(NONE, 2, 0, last, "broken", 1, kind, 0, 1);
        }

        says(16, "b: NONE of BARE");
        threeKinds().due(0, "broken", 1, BARE, 0, 0).due(NONE, "broken", 1, BARE, 0, 1).due(1, "broken", 1, BARE, 1, 0).due(NONE, "broken", 1, BARE, 1, 1);

        says(16, "of TWICE a has the lesser number");
        threeKinds().due(0, "broken", 1, TWICE, 0, 0).due(1, "broken", 1, TWICE, 0, 1);

        says(16, "of LOCK a is the one in STEP 1, though its number is greater");
        begun(5).votes(new int[][] {{0, 1, 7, 0, 2}, {0, 1, 0, 1, 1}}).due(1, "broken", 1, LOCK, 0, 0).due(0, "broken", 1, LOCK, 0, 1);

        says(16, "by the number of a, then of b, NODES and ROUNDS mixed");
        Run r = begun(5, 5).votes(new int[][] {{1, 1, 5, 0, 9}, {0, 1, 6, 0, 2}, {1, 1, 4, 1, 1}, {0, 1, 0, 1, 1},
            {1, 1, 5, 0, 2}, {0, 1, 6, 0, 3}, {1, 1, 5, 0, 0}});
        brokenRows(r, TWICE, new int[][] {{0, 4}, {0, 6}, {1, 5}, {4, 6}});
        brokenRows(r, LOCK, new int[][] {{2, 0}, {2, 4}, {3, 1}, {3, 5}});
        brokenRows(r, BARE, new int[][] {{2, NONE}, {3, NONE}});

        says(16, "the last one of all, when 300 VOTES are kept");
        full().due(298, "broken", 2, TWICE, 14 * 45 - 1, 0).due(299, "broken", 2, TWICE, 14 * 45 - 1, 1).due(NONE, "broken", 2, TWICE, 14 * 45, 0)
            .due(0, "broken", 1, TWICE, 0, 0).due(1, "broken", 1, TWICE, 0, 1).due(159, "broken", 1, TWICE, 16 * 45 - 1, 1);
    }

    private static void brokenRows(Run r, int kind, int[][] rows) {
        r.due(rows.length, "breaks", 1, kind);
        for (int i = 0; i < rows.length; i++) {
            r.due(rows[i][0], "broken", 1, kind, i, 0).due(rows[i][1], "broken", 1, kind, i, 1);
        }
        r.due(NONE, "broken", 1, kind, rows.length, 0).due(NONE, "broken", 1, kind, rows.length, 1);
    }

    // ---- 17

    private static void named() {
        says(17, "OUTSIDE (height)");
        nodes(5).still(OUTSIDE, "named", 0).still(OUTSIDE, "named", 1);
        begun(5).stillOutside(OUTSIDE, 0, 1, 1, "named", 1);
        begun(5).forward(39).stillOutside(OUTSIDE, 0, 1, 40, "named", 1).still(0, "named", 40).still(0, "named", 1);

        says(17, "no VOTES, or none that breaks: 0");
        begun(5, 5).due(0, "named", 1).votes(new int[][] {{0, 1, 0, 0, 1}, {1, 1, 0, 0, 2}, {0, 1, 0, 1, 0}}).due(0, "named", 1);

        says(17, "each NODE from the first to the eighth: 2 to the power of its number, together");
        Run r = begun(1, 1, 1, 1, 1, 1, 1, 1);
        for (int node = 0; node < 8; node++) {
            r.votes(new int[] {node, 1, 0, 1, 1}).due((2 << node) - 1, "named", 1);
        }

        says(17, "of each kind alone");
        begun(1, 1, 1).votes(new int[][] {{2, 1, 0, 0, 1}, {2, 1, 0, 0, 0}}).due(4, "named", 1).due(0, "breaks", 1, LOCK).due(0, "breaks", 1, BARE);
        begun(10, 1).votes(new int[][] {{0, 1, 0, 0, 1}, {1, 1, 0, 1, 1}, {1, 1, 1, 0, 2}}).due(2, "named", 1)
            .due(0, "breaks", 1, TWICE).due(0, "breaks", 1, BARE);
        begun(1, 1).votes(new int[] {1, 1, 7, 1, 9}).due(2, "named", 1).due(0, "breaks", 1, TWICE).due(0, "breaks", 1, LOCK);

        says(17, "by more BREAKS than one it is named once; TAKEN or not");
        threeKinds().due(1, "named", 1).forward(2).due(50, "accuse", TWICE, 0, 1, 1)
            .due(95, "accuse", LOCK, 0, 2, 1).due(171, "accuse", BARE, 0, 1, 1).due(1, "named", 1);

        says(17, "of a height: not of another one");
        threeKinds().forward(1).votes(new int[] {1, 2, 0, 1, 1}).due(1, "named", 1).due(2, "named", 2);

        says(17, "by the VOTES so far: BACKED later, nobody is named any more");
        begun(10, 1).votes(new int[] {1, 1, 0, 1, 1}).due(2, "named", 1).votes(new int[] {0, 1, 0, 0, 1}).due(0, "named", 1);

        says(17, "all 300 VOTES");
        full().due(1, "named", 1).due(1, "named", 2);
    }

    // ---- 18

    private static void taken() {
        says(18, "UNKNOWN: none was TAKEN, or not so many");
        threeKinds().stillOutside(UNKNOWN, 0, 0, -1, "taken", 0, 0);
        threeKinds().due(50, "accuse", TWICE, 0, 1, 1).stillOutside(UNKNOWN, 0, 0, 0, "taken", 0, 0);

        says(18, "OUTSIDE: what is not 0 .. 6");
        threeKinds().due(50, "accuse", TWICE, 0, 1, 1).stillOutside(OUTSIDE, 1, 0, 6, "taken", 0, 0).still(0, "taken", 0, 0).still(5, "taken", 0, 6);

        says(18, "UNKNOWN comes before OUTSIDE");
        threeKinds().due(50, "accuse", TWICE, 0, 1, 1).still(UNKNOWN, "taken", 1, 7).still(UNKNOWN, "taken", -1, -1)
            .still(UNKNOWN, "taken", Integer.MIN_VALUE, Integer.MIN_VALUE).still(UNKNOWN, "taken", Integer.MAX_VALUE, Integer.MAX_VALUE);

        says(18, "of TWICE the lesser number first; NONE of BARE; by NONE; HEIGHT then");
        Run r = threeKinds().forward(2).due(50, "accuse", TWICE, 1, 0, 2).forward(1)
            .due(190, "accuse", BARE, 1, 3, NONE).due(76, "accuse", LOCK, 0, 2, 0).forward(5);
        long[][] want = {{TWICE, 0, 1, 2, 3, 50, 5}, {BARE, 1, NONE, NONE, 4, 190, 0}, {LOCK, 0, 2, 0, 4, 76, 7}};
        for (int i = 0; i < want.length; i++) {
            for (int what = 0; what < 7; what++) {
                r.due(want[i][what], "taken", i, what);
            }
        }

        says(18, "as many as 300 VOTES give: 150");
        takenAll();
    }

    private static void takenAll() {
        Run r = nodes(1000, 1000, 1000, 1000, 1000, 1000, 1000, 1000);
        for (int i = 0; i < 150; i++) {
            if (i % 8 == 0) {
                r.call("next");
            }
            r.votes(new int[][] {{i % 8, i / 8 + 1, 0, 0, 1}, {i % 8, i / 8 + 1, 0, 0, 2}});
            r.call("accuse", TWICE, 2 * i, 2 * i + 1, i % 8);
        }
        r.due(150, "about", 3).due(298, "taken", 149, 1).due(299, "taken", 149, 2).due(5, "taken", 149, 3).due(19, "taken", 149, 4)
            .due(50, "taken", 0, 5).due(47, "taken", 8, 5).due(UNKNOWN, "taken", 150, 0).due(19, "holds", 0, 3).due(18, "holds", 7, 3)
            .due(DONE, "accuse", TWICE, 298, 299, 0).due(DONE, "accuse", TWICE, 270, 271, 0).due(ROOM, "vote", 7, 19, 0, 0, 1);
    }

    // ---- all that is told

    private static void tellingChangesNothing() {
        says(9, "what is told changes nothing");
        Run r = threeKinds().forward(2);
        r.due(50, "accuse", TWICE, 0, 1, 1);
        r.still(1, "about", 3).still(950, "holds", 0, 0).still(1, "said", 3, 0).still(3000, "weight", 1, NONE).still(1000, "backed", 1, 0, 0, 1)
            .still(NONE, "certain", 1, 0).still(1, "breaks", 1, LOCK).still(2, "broken", 1, LOCK, 0, 1).still(1, "named", 1).still(50, "taken", 0, 5);
    }

    // ---- the first sentence of the document

    /** Votes of these nodes for a block, in a step of a round of height 1. */
    private static Run all(Run r, int round, int step, int block, int... nodes) {
        for (int node : nodes) {
            r.votes(new int[] {node, 1, round, step, block});
        }
        return r;
    }

    /** Two blocks are certain at height 1; just these nodes are named, and they weigh more than a third. */
    private static void blamed(Run r, int nodes) {
        r.due(1, "certain", 1, 0).due(2, "certain", 1, 1).due(nodes, "named", 1);
        long weight = 0;
        for (int node = 0; node < r.call("about", 1); node++) {
            weight += (nodes >> node & 1) * r.call("weight", 1, node);
        }
        if (3 * weight <= r.call("weight", 1, NONE)) {
            report("the named ones weigh " + weight + " only");
        }
    }

    private static void blameOfOneRound() {
        says(17, "two BLOCKS CERTAIN in one ROUND: those in both weigh more than a third, by TWICE");
        Run r = begun(1, 1, 1, 1);
        all(r, 0, 0, 1, 0, 1, 2);
        all(r, 0, 0, 2, 1, 2, 3);
        all(r, 0, 1, 1, 0, 1, 2);
        all(r, 0, 1, 2, 1, 2, 3);
        r.due(4, "breaks", 1, TWICE).due(0, "breaks", 1, LOCK).due(0, "breaks", 1, BARE);
        blamed(r, 2 + 4);

        says(17, "just a little more than a third: 334 of 1000");
        r = begun(333, 334, 333);
        all(r, 5, 0, 1, 0, 1);
        all(r, 5, 0, 2, 1, 2);
        all(r, 5, 1, 1, 0, 1);
        all(r, 5, 1, 2, 1, 2);
        blamed(r, 2);
    }

    private static void blameOfTwoRounds() {
        says(17, "two BLOCKS CERTAIN in two ROUNDS: by LOCK");
        Run r = begun(333, 334, 333);
        all(r, 3, 0, 1, 0, 1);
        all(r, 3, 1, 1, 0, 1);
        all(r, 7, 0, 2, 1, 2);
        all(r, 7, 1, 2, 1, 2);
        r.due(0, "breaks", 1, TWICE).due(1, "breaks", 1, LOCK).due(0, "breaks", 1, BARE);
        blamed(r, 2);

        says(17, "the other BLOCK was BACKED in the ROUND of the first one: by TWICE");
        r = begun(333, 334, 333);
        all(r, 3, 0, 1, 0, 1);
        all(r, 3, 1, 1, 0, 1);
        all(r, 3, 0, 2, 1, 2);
        all(r, 7, 0, 2, 1, 2);
        all(r, 7, 1, 2, 1, 2);
        r.due(1, "breaks", 1, TWICE).due(0, "breaks", 1, LOCK).due(0, "breaks", 1, BARE);
        blamed(r, 2);

        says(17, "a BLOCK is CERTAIN, but BACKED nowhere: by BARE, all that said it");
        r = begun(333, 334, 333);
        all(r, 3, 0, 1, 0, 1);
        all(r, 3, 1, 1, 0, 1);
        all(r, 7, 1, 2, 1, 2);
        r.due(0, "breaks", 1, TWICE).due(0, "breaks", 1, LOCK).due(2, "breaks", 1, BARE);
        blamed(r, 2 + 4);
    }

    /** Nodes 0 .. 2 say what they might, in this order; node 3, with less than a third, says all it can before each step. */
    private static void blameOfNone() {
        says(17, "a NODE that said nothing but what it might say is never named, whatever another one says");
        int[][] tries = {{0, 0, 0, 1, 1}, {1, 0, 0, 1, 1}, {2, 0, 0, 2, 1},
            {0, 0, 1, 2, 0}, {0, 0, 1, 1, 1}, {1, 0, 1, 0, 1}, {2, 0, 1, 0, 1},
            {0, 1, 0, 2, 0}, {0, 1, 0, 1, 1}, {1, 1, 0, 2, 1}, {2, 1, 0, 2, 1},
            {0, 1, 1, 1, 0}, {0, 1, 1, 0, 1}, {1, 1, 1, 2, 1}, {2, 1, 1, 2, 1},
            {1, 2, 0, 1, 0}, {1, 2, 0, 2, 1}, {2, 2, 0, 1, 0}, {2, 2, 0, 2, 1}, {0, 2, 0, 2, 1},
            {0, 2, 1, 1, 0}, {0, 2, 1, 2, 1}, {1, 2, 1, 2, 1}, {2, 2, 1, 2, 1}};
        Run r = begun(3, 3, 3, 4);
        for (int[] t : tries) {
            for (int block = 0; block < 3; block++) {
                r.votes(new int[] {3, 1, t[1], t[2], block});
            }
            r.due(t[4], "may", t[0], 1, t[1], t[2], t[3]);
            if (t[4] == 1) {
                r.votes(new int[] {t[0], 1, t[1], t[2], t[3]});
            }
            r.due(8, "named", 1);
        }
        r.due(2, "certain", 1, 0).due(NONE, "certain", 1, 1);
    }
}
