/** Each promise of the document by hand: ordinary inputs, the edges that it names, and wrong inputs. */
public final class PromiseTest {
    private static final int NONE = -1, UNKNOWN = -101, OUTSIDE = -102, STATE = -103, ROOM = -104;
    private static final int NOT = -105, EARLY = -106, LATE = -107, DONE = -108;
    private static final int TWICE = 0, LOCK = 1, BARE = 2;
    private static final long MOST = 1000000000L;
    private static final int[] FAR = {Integer.MIN_VALUE, -2, Integer.MAX_VALUE};

    private static int wrong = 0;

    private static void due(String call, long got, long want) {
        if (got != want) {
            wrong++;
            System.out.println(call + " answered " + got + ", due is " + want);
        }
    }

    public static void main(String[] args) {
        newObject();
        node();
        add();
        next();
        set();
        vote();
        voteRoom();
        may();
        mayLock();
        accuseRefusals();
        accuseTimes();
        accuseOnce();
        accuseCosts();
        accuseOut();
        about();
        holds();
        said();
        weight();
        backed();
        theMost();
        certain();
        breaksTwice();
        breaksLock();
        breaksBare();
        broken();
        named();
        taken();
        System.out.println(wrong == 0 ? "all promises hold" : wrong + " answers are not as due");
        if (wrong != 0) {
            System.exit(1);
        }
    }

    /** Nodes with these stakes, at height 1. */
    private static FaultEvidence begun(long... stakes) {
        FaultEvidence x = new FaultEvidence();
        for (long stake : stakes) {
            x.node(stake);
        }
        x.next();
        return x;
    }

    private static void forward(FaultEvidence x, int heights) {
        for (int i = 0; i < heights; i++) {
            x.next();
        }
    }

    // ---- 1
    private static void newObject() {
        FaultEvidence x = new FaultEvidence();
        long[] first = {0, 0, 0, 0, 0, 50, 100, 200, 10, 0};
        for (int what = 0; what < first.length; what++) {
            due("1: about(" + what + ")", x.about(what), first[what]);
        }
        due("1: holds(0, 0)", x.holds(0, 0), UNKNOWN);
        due("1: said(0, 0)", x.said(0, 0), UNKNOWN);
        due("1: taken(0, 0)", x.taken(0, 0), UNKNOWN);
        due("1: weight(0, NONE)", x.weight(0, NONE), OUTSIDE);
        FaultEvidence other = begun(7);
        due("1: one object does not see another's nodes", x.about(1), 0);
        due("1: the other has its own", other.about(1), 1);
    }

    // ---- 2
    private static void node() {
        FaultEvidence x = new FaultEvidence();
        due("2: node(0)", x.node(0), OUTSIDE);
        due("2: node(-1)", x.node(-1), OUTSIDE);
        due("2: node(MOST + 1)", x.node(MOST + 1), OUTSIDE);
        due("2: node(4294967297)", x.node(4294967297L), OUTSIDE);
        due("2: node(min)", x.node(Long.MIN_VALUE), OUTSIDE);
        due("2: node(max)", x.node(Long.MAX_VALUE), OUTSIDE);
        due("2: none was made", x.about(1), 0);
        due("2: node(1)", x.node(1), 0);
        due("2: node(MOST)", x.node(MOST), 1);
        due("2: holds(1, 0)", x.holds(1, 0), MOST);
        for (int i = 2; i < 8; i++) {
            due("2: node " + i, x.node(5), i);
        }
        due("2: the ninth", x.node(5), ROOM);
        due("2: the ninth, outside first", x.node(0), OUTSIDE);
        due("2: eight nodes", x.about(1), 8);
    }

    // ---- 3
    private static void add() {
        FaultEvidence x = begun(10, MOST);
        due("3: add(0, 1)", x.add(0, 1), 11);
        due("3: holds(0, 0)", x.holds(0, 0), 11);
        due("3: the other stays", x.holds(1, 0), MOST);
        due("3: weight stays", x.weight(1, 0), 10);
        due("3: add(0, 0)", x.add(0, 0), OUTSIDE);
        due("3: add(0, -1)", x.add(0, -1), OUTSIDE);
        due("3: add(0, MOST + 1)", x.add(0, MOST + 1), OUTSIDE);
        due("3: add(0, max)", x.add(0, Long.MAX_VALUE), OUTSIDE);
        due("3: add(0, min)", x.add(0, Long.MIN_VALUE), OUTSIDE);
        due("3: above the most", x.add(0, MOST - 10), OUTSIDE);
        due("3: just the most", x.add(0, MOST - 11), MOST);
        due("3: full", x.add(1, 1), OUTSIDE);
        for (int far : FAR) {
            due("3: add(" + far + ", 1)", x.add(far, 1), UNKNOWN);
        }
        due("3: add(2, 1)", x.add(2, 1), UNKNOWN);
        due("3: add(-1, 0)", x.add(-1, 0), UNKNOWN);
    }

    // ---- 4
    private static void next() {
        FaultEvidence x = new FaultEvidence();
        for (int h = 1; h <= 40; h++) {
            due("4: next", x.next(), h);
        }
        due("4: next above 40", x.next(), ROOM);
        due("4: HEIGHT stays", x.about(0), 40);
        due("4: no nodes, no total", x.weight(40, NONE), 0);
    }

    // ---- 5
    private static void set() {
        FaultEvidence x = new FaultEvidence();
        long[] first = {50, 100, 200, 10, 0};
        long[] from = {0, 0, 0, 2, 0};
        long[] to = {1000, 1000, 1000, 20, MOST};
        for (int what = 0; what < 5; what++) {
            String call = "5: set(" + what + ", ..) ";
            due(call + "below", x.set(what, from[what] - 1), OUTSIDE);
            due(call + "above", x.set(what, to[what] + 1), OUTSIDE);
            due(call + "far below", x.set(what, Long.MIN_VALUE), OUTSIDE);
            due(call + "far above", x.set(what, Long.MAX_VALUE), OUTSIDE);
            due(call + "untouched", x.about(5 + what), first[what]);
            due(call + "least", x.set(what, from[what]), first[what]);
            due(call + "told", x.about(5 + what), from[what]);
            due(call + "most", x.set(what, to[what]), from[what]);
            due(call + "told again", x.about(5 + what), to[what]);
        }
        due("5: set(5, 2)", x.set(5, 2), OUTSIDE);
        due("5: set(-1, 2)", x.set(-1, 2), OUTSIDE);
        for (int far : FAR) {
            due("5: set(" + far + ", 2)", x.set(far, 2), OUTSIDE);
        }
    }

    // ---- 6
    private static void vote() {
        FaultEvidence x = new FaultEvidence();
        x.node(10);
        due("6: height 0", x.vote(0, 0, 0, 0, 1), OUTSIDE);
        due("6: height 1 before it begins", x.vote(0, 1, 0, 0, 1), OUTSIDE);
        x.next();
        x.node(10);
        due("6: came later", x.vote(1, 1, 0, 0, 1), STATE);
        due("6: came later, but outside", x.vote(1, 1, 0, 0, 10), OUTSIDE);
        due("6: first", x.vote(0, 1, 0, 0, 1), 0);
        due("6: kept already", x.vote(0, 1, 0, 0, 1), 0);
        due("6: edges", x.vote(0, 1, 7, 1, 9), 1);
        due("6: none", x.vote(0, 1, 0, 0, 0), 2);
        due("6: kept already, later", x.vote(0, 1, 7, 1, 9), 1);
        due("6: three", x.about(2), 3);
        x.next();
        due("6: the height before is open", x.vote(0, 1, 0, 0, 2), 3);
        due("6: still no weight there", x.vote(1, 1, 0, 0, 2), STATE);
        due("6: now with weight", x.vote(1, 2, 0, 0, 2), 4);
        due("6: other height, other vote", x.vote(0, 2, 0, 0, 1), 5);
        x.next();
        due("6: closed", x.vote(0, 1, 0, 0, 3), OUTSIDE);
        due("6: closed, though kept", x.vote(0, 1, 0, 0, 1), OUTSIDE);
        due("6: next height", x.vote(0, 4, 0, 0, 1), OUTSIDE);
        due("6: unknown first", x.vote(2, 9, 9, 9, 99), UNKNOWN);
        due("6: none is no node", x.vote(NONE, 3, 0, 0, 1), UNKNOWN);
        due("6: height -1", x.vote(0, -1, 0, 0, 1), OUTSIDE);
        due("6: round 8", x.vote(0, 3, 8, 0, 1), OUTSIDE);
        due("6: round -1", x.vote(0, 3, -1, 0, 1), OUTSIDE);
        due("6: step 2", x.vote(0, 3, 0, 2, 1), OUTSIDE);
        due("6: step -1", x.vote(0, 3, 0, -1, 1), OUTSIDE);
        due("6: block 10", x.vote(0, 3, 0, 0, 10), OUTSIDE);
        due("6: block -1", x.vote(0, 3, 0, 0, -1), OUTSIDE);
        for (int far : FAR) {
            due("6: node far", x.vote(far, 3, 0, 0, 1), UNKNOWN);
            due("6: height far", x.vote(0, far, 0, 0, 1), OUTSIDE);
            due("6: round far", x.vote(0, 3, far, 0, 1), OUTSIDE);
            due("6: step far", x.vote(0, 3, 0, far, 1), OUTSIDE);
            due("6: block far", x.vote(0, 3, 0, 0, far), OUTSIDE);
        }
        due("6: nothing more was kept", x.about(2), 6);
    }

    private static void voteRoom() {
        FaultEvidence x = begun(10, 10);
        x.node(10);
        for (int i = 0; i < 300; i++) {
            due("6: vote " + i, x.vote(i / 160, 1, i % 160 / 20, i / 10 % 2, i % 10), i);
        }
        due("6: the 301st", x.vote(1, 1, 7, 0, 0), ROOM);
        due("6: kept already, though full", x.vote(1, 1, 0, 0, 3), 163);
        due("6: outside, though full", x.vote(1, 1, 7, 0, 10), OUTSIDE);
        due("6: state, though full", x.vote(2, 1, 7, 0, 0), STATE);
        due("6: 300 votes", x.about(2), 300);
        due("7: may() has no ROOM", x.may(1, 1, 7, 0, 0), 1);
        due("15: 10 votes of each of 30 slots", x.breaks(1, TWICE), 30 * 45);
        due("17: both", x.named(1), 3);
        due("16: the last of a full row", x.broken(1, TWICE, 30 * 45 - 1, 1), 299);
        due("16: none behind a full row", x.broken(1, TWICE, 30 * 45, 0), NONE);
    }

    // ---- 7
    private static void may() {
        FaultEvidence x = new FaultEvidence();
        due("7: no node", x.may(0, 0, 0, 0, 0), UNKNOWN);
        x.node(10);
        due("7: height 0", x.may(0, 0, 0, 0, 0), OUTSIDE);
        x.next();
        x.node(10);
        due("7: no weight", x.may(1, 1, 0, 0, 0), STATE);
        due("7: round", x.may(0, 1, 8, 0, 0), OUTSIDE);
        due("7: step", x.may(0, 1, 0, 2, 0), OUTSIDE);
        due("7: block", x.may(0, 1, 0, 0, 10), OUTSIDE);
        due("7: step 1 for none", x.may(0, 1, 0, 1, 0), 1);
        due("7: bare", x.may(0, 1, 0, 1, 3), 0);
        due("7: step 0", x.may(0, 1, 0, 0, 3), 1);
        due("7: nothing was kept", x.about(2), 0);
        x.vote(0, 1, 0, 0, 3);
        due("7: kept already", x.may(0, 1, 0, 0, 3), 1);
        due("7: twice", x.may(0, 1, 0, 0, 4), 0);
        due("7: twice with none", x.may(0, 1, 0, 0, 0), 0);
        due("7: now backed", x.may(0, 1, 0, 1, 3), 1);
        due("7: backed in another round", x.may(0, 1, 1, 1, 3), 0);
        x.vote(0, 1, 0, 0, 4);
        due("7: kept already, and twice", x.may(0, 1, 0, 0, 3), 0);
        forward(x, 2);
        due("7: closed", x.may(0, 1, 0, 0, 3), OUTSIDE);
        due("7: the height before", x.may(1, 2, 0, 0, 3), 1);
        due("7: another height is another matter", x.may(0, 3, 0, 0, 5), 1);
    }

    private static void mayLock() {
        FaultEvidence x = begun(1, 1, 1, 1);
        for (int node = 0; node < 3; node++) {
            x.vote(node, 1, 2, 0, 5);
        }
        x.vote(0, 1, 2, 1, 5);
        due("7: same block later", x.may(0, 1, 3, 0, 5), 1);
        due("7: none later", x.may(0, 1, 3, 0, 0), 1);
        due("7: other block later", x.may(0, 1, 3, 0, 6), 0);
        due("7: other block earlier", x.may(0, 1, 1, 0, 6), 1);
        due("7: another node", x.may(3, 1, 3, 0, 6), 1);
        x.vote(3, 1, 3, 0, 6);
        due("7: the lock comes after the later vote", x.may(3, 1, 2, 1, 5), 0);
        x.vote(1, 1, 3, 0, 6);
        due("7: two of four have not the most", x.may(0, 1, 4, 0, 6), 0);
        x.vote(2, 1, 3, 0, 6);
        due("7: backed in between", x.may(0, 1, 4, 0, 6), 1);
        due("7: but not up to the round before", x.may(0, 1, 3, 0, 6), 0);
        due("7: lock unharmed by what is backed since", x.may(3, 1, 2, 1, 5), 0);
        due("7: step 1 for a backed other block", x.may(0, 1, 3, 1, 6), 1);
    }

    // ---- 8
    private static void accuseRefusals() {
        FaultEvidence x = begun(1000, 1000, 1000);
        x.vote(0, 1, 0, 1, 1);
        x.vote(0, 1, 0, 1, 2);
        x.vote(0, 1, 1, 0, 2);
        x.vote(1, 1, 0, 1, 0);
        x.vote(1, 1, 0, 0, 1);
        forward(x, 2);
        due("8: a", x.accuse(TWICE, 5, 1, NONE), UNKNOWN);
        due("8: b", x.accuse(TWICE, 0, 5, NONE), UNKNOWN);
        due("8: a is none", x.accuse(BARE, NONE, 0, NONE), UNKNOWN);
        due("8: b of lock", x.accuse(LOCK, 0, NONE, NONE), UNKNOWN);
        due("8: by", x.accuse(BARE, 0, 0, 3), UNKNOWN);
        due("8: by -2", x.accuse(BARE, 0, 0, -2), UNKNOWN);
        due("8: kind 3", x.accuse(3, 0, 1, NONE), OUTSIDE);
        due("8: kind -1", x.accuse(-1, 0, 1, NONE), OUTSIDE);
        due("8: kind 3 looks at b", x.accuse(3, 0, 5, NONE), UNKNOWN);
        for (int far : FAR) {
            due("8: a far", x.accuse(TWICE, far, 0, NONE), UNKNOWN);
            due("8: b far", x.accuse(TWICE, 0, far, NONE), UNKNOWN);
            due("8: by far", x.accuse(TWICE, 0, 1, far), UNKNOWN);
            due("8: kind far", x.accuse(far, 0, 1, NONE), OUTSIDE);
        }
        due("8: twice with itself", x.accuse(TWICE, 0, 0, NONE), NOT);
        due("8: twice of other rounds", x.accuse(TWICE, 0, 2, NONE), NOT);
        due("8: twice of two nodes", x.accuse(TWICE, 0, 3, NONE), NOT);
        due("8: twice of two steps", x.accuse(TWICE, 3, 4, NONE), NOT);
        due("8: lock the wrong way round", x.accuse(LOCK, 2, 0, NONE), NOT);
        due("8: lock on the same block", x.accuse(LOCK, 1, 2, NONE), NOT);
        due("8: bare in step 0", x.accuse(BARE, 2, 0, NONE), NOT);
        due("8: bare for none", x.accuse(BARE, 3, 0, NONE), NOT);
        due("8: nothing was taken", x.about(3), 0);
        due("8: no stake was lost", x.holds(0, 0), 1000);
        due("8: lock", x.accuse(LOCK, 0, 2, NONE), 100);
        due("8: bare, b far", x.accuse(BARE, 0, Integer.MIN_VALUE, NONE), 180);
        due("8: twice, the later vote first", x.accuse(TWICE, 1, 0, NONE), 36);
    }

    private static void accuseTimes() {
        FaultEvidence x = begun(1000, 1000, 1000);
        x.vote(0, 1, 0, 1, 1);
        x.vote(0, 1, 1, 0, 2);
        x.vote(1, 1, 0, 1, 1);
        x.vote(1, 1, 0, 1, 2);
        x.vote(2, 1, 0, 1, 1);
        x.vote(2, 1, 0, 1, 2);
        due("8: lock, same height", x.accuse(LOCK, 0, 1, NONE), EARLY);
        due("8: bare, same height", x.accuse(BARE, 0, 1, NONE), EARLY);
        due("8: twice, same height", x.accuse(TWICE, 2, 3, NONE), 50);
        due("8: not comes before early", x.accuse(LOCK, 0, 0, NONE), NOT);
        x.next();
        due("8: lock, one height on", x.accuse(LOCK, 0, 1, NONE), EARLY);
        due("8: bare, one height on", x.accuse(BARE, 0, 1, NONE), EARLY);
        x.next();
        due("8: lock, two on", x.accuse(LOCK, 0, 1, NONE), 100);
        forward(x, 8);
        due("8: SPAN above", x.accuse(BARE, 0, 1, NONE), 180);
        due("8: twice, SPAN above", x.accuse(TWICE, 4, 5, NONE), 50);
        x.next();
        due("8: above SPAN", x.accuse(BARE, 4, 1, NONE), LATE);
        due("8: late comes before done", x.accuse(LOCK, 0, 1, NONE), LATE);
        due("8: not comes before late", x.accuse(TWICE, 0, 2, NONE), NOT);
        x.set(3, 11);
        due("8: a longer SPAN", x.accuse(BARE, 4, 1, NONE), 190);
        x.set(3, 2);
        due("8: a shorter SPAN", x.accuse(BARE, 2, 1, NONE), LATE);
    }

    private static void accuseOnce() {
        FaultEvidence x = begun(1000, 1000);
        x.vote(0, 1, 0, 0, 1);
        x.vote(0, 1, 0, 0, 2);
        x.vote(0, 1, 5, 1, 3);
        x.vote(0, 1, 5, 1, 4);
        x.vote(1, 1, 5, 1, 3);
        x.vote(1, 1, 5, 1, 4);
        x.next();
        x.vote(0, 2, 5, 1, 3);
        x.vote(0, 2, 5, 1, 4);
        due("8: the first", x.accuse(TWICE, 0, 1, 1), 50);
        due("8: the same", x.accuse(TWICE, 0, 1, 1), DONE);
        due("8: the same the other way round", x.accuse(TWICE, 1, 0, NONE), DONE);
        due("8: another of the kind, node and height", x.accuse(TWICE, 2, 3, 1), DONE);
        due("8: of another node", x.accuse(TWICE, 4, 5, 0), 50);
        due("8: of another height", x.accuse(TWICE, 6, 7, NONE), 47);
        x.next();
        due("8: of another kind", x.accuse(BARE, 2, 0, NONE), 180);
        due("8: another of that kind", x.accuse(BARE, 3, 0, NONE), DONE);
        due("8: four were taken", x.about(3), 4);
        due("8: done changes nothing", x.holds(0, 0), 1000 - 50 - 47 - 180);
    }

    private static void accuseCosts() {
        FaultEvidence x = begun(MOST, 999, 19);
        for (int node = 0; node < 3; node++) {
            x.vote(node, 1, 0, 1, 1);
            x.vote(node, 1, 0, 1, 2);
        }
        x.set(0, 999);
        due("8: big", x.accuse(TWICE, 0, 1, 1), 999000000);
        due("8: a tenth", x.holds(1, 1), 99900000);
        due("8: the rest", x.about(4), 899100000);
        due("8: what is left", x.holds(0, 0), 1000000);
        x.set(0, 50);
        due("8: cut", x.accuse(TWICE, 2, 3, 1), 49);
        due("8: who is named may accuse", x.holds(1, 1), 99900004);
        due("8: all but what was cut of the tenth", x.about(4), 899100045);
        due("8: below one", x.accuse(TWICE, 4, 5, NONE), 0);
        due("8: taken all the same", x.about(3), 3);
        forward(x, 2);
        x.set(2, 1000);
        due("8: all of it", x.accuse(BARE, 4, 0, NONE), 19);
        due("8: nobody's purse", x.about(4), 899100064);
        due("8: nothing is left", x.holds(2, 0), 0);
        due("8: nothing is not below nothing", x.holds(2, 2), 0);
        x.set(2, 0);
        due("8: for nothing", x.accuse(BARE, 0, 0, 1), 0);
        x.next();
        due("8: no stake, no weight", x.weight(4, 2), 0);
        due("8: no weight, no vote", x.vote(2, 4, 0, 0, 1), STATE);
        due("3: the most at once, onto nothing", x.add(2, MOST), MOST);
        x.next();
        due("8: weight again", x.weight(5, 2), MOST);
    }

    private static void accuseOut() {
        FaultEvidence x = begun(1000, 1000, 1000);
        for (int node = 0; node < 3; node++) {
            x.vote(node, 1, 0, 1, 1);
            x.vote(node, 1, 0, 1, 2);
        }
        x.set(4, 950);
        x.accuse(TWICE, 0, 1, 2);
        due("8: just LEAST", x.holds(0, 2), 0);
        x.set(4, 951);
        due("8: a new LEAST alone puts none out", x.holds(0, 2), 0);
        x.accuse(TWICE, 2, 3, 2);
        due("8: below LEAST", x.holds(1, 2), 1);
        due("8: out, yet weight at this height", x.vote(1, 1, 0, 0, 3), 6);
        x.next();
        due("8: a vote at the height before", x.vote(1, 1, 0, 0, 4), 7);
        due("8: out, no weight", x.weight(2, 1), 0);
        due("8: out, not in the total", x.weight(2, NONE), 1950);
        due("8: out, no vote", x.vote(1, 2, 0, 0, 1), STATE);
        due("8: out, no may", x.may(1, 2, 0, 0, 1), STATE);
        x.set(4, 0);
        due("8: out, but it grows", x.add(1, 500), 1450);
        due("8: for good", x.holds(1, 2), 1);
        due("8: one that is out may accuse", x.accuse(TWICE, 4, 5, 1), 50);
        due("8: and is paid", x.holds(1, 1), 5);
        x.next();
        due("8: out for good, no weight", x.weight(3, 1), 0);
        due("8: out and accused again", x.accuse(BARE, 2, 0, NONE), 290);
        due("8: still out", x.holds(1, 2), 1);
    }

    // ---- 9
    private static void about() {
        FaultEvidence x = begun(1000, 1000);
        x.vote(0, 1, 0, 0, 1);
        x.vote(0, 1, 0, 0, 2);
        x.vote(0, 1, 0, 0, 3);
        x.accuse(TWICE, 0, 1, 1);
        x.set(0, 1);
        x.set(1, 2);
        x.set(2, 3);
        x.set(3, 4);
        x.set(4, 5);
        long[] want = {1, 2, 3, 1, 45, 1, 2, 3, 4, 5};
        for (int what = 0; what < want.length; what++) {
            due("9: about(" + what + ")", x.about(what), want[what]);
        }
        due("9: about(10)", x.about(10), OUTSIDE);
        due("9: about(-1)", x.about(-1), OUTSIDE);
        for (int far : FAR) {
            due("9: about(" + far + ")", x.about(far), OUTSIDE);
        }
    }

    // ---- 10
    private static void holds() {
        FaultEvidence x = begun(1000, 2000);
        x.vote(0, 1, 0, 1, 1);
        x.vote(0, 1, 0, 1, 2);
        forward(x, 2);
        x.set(4, 900);
        x.accuse(TWICE, 0, 1, 1);
        x.accuse(BARE, 0, 1, 1);
        long[][] want = {{760, 0, 1, 2}, {2000, 24, 0, 0}};
        for (int node = 0; node < 2; node++) {
            for (int what = 0; what < 4; what++) {
                due("10: holds(" + node + ", " + what + ")", x.holds(node, what), want[node][what]);
            }
        }
        due("10: holds(0, 4)", x.holds(0, 4), OUTSIDE);
        due("10: holds(0, -1)", x.holds(0, -1), OUTSIDE);
        due("10: unknown first", x.holds(2, 4), UNKNOWN);
        due("10: none", x.holds(NONE, 0), UNKNOWN);
        for (int far : FAR) {
            due("10: node far", x.holds(far, 0), UNKNOWN);
            due("10: what far", x.holds(0, far), OUTSIDE);
        }
    }

    // ---- 11
    private static void said() {
        FaultEvidence x = begun(1, 1, 1, 1, 1, 1, 1, 1);
        forward(x, 39);
        x.vote(7, 40, 7, 1, 9);
        x.vote(0, 39, 0, 0, 0);
        x.vote(5, 39, 6, 0, 8);
        int[][] want = {{7, 40, 7, 1, 9}, {0, 39, 0, 0, 0}, {5, 39, 6, 0, 8}};
        for (int v = 0; v < 3; v++) {
            for (int what = 0; what < 5; what++) {
                due("11: said(" + v + ", " + what + ")", x.said(v, what), want[v][what]);
            }
        }
        due("11: said(3, 0)", x.said(3, 0), UNKNOWN);
        due("11: said(-1, 0)", x.said(-1, 0), UNKNOWN);
        due("11: unknown first", x.said(3, 5), UNKNOWN);
        due("11: said(0, 5)", x.said(0, 5), OUTSIDE);
        due("11: said(0, -1)", x.said(0, -1), OUTSIDE);
        for (int far : FAR) {
            due("11: vote far", x.said(far, 0), UNKNOWN);
            due("11: what far", x.said(0, far), OUTSIDE);
        }
    }

    // ---- 12
    private static void weight() {
        FaultEvidence x = begun(10, 20);
        x.node(5);
        x.add(0, 1);
        due("12: as it began", x.weight(1, 0), 10);
        due("12: came later", x.weight(1, 2), 0);
        due("12: total", x.weight(1, NONE), 30);
        x.next();
        due("12: grown", x.weight(2, 0), 11);
        due("12: there now", x.weight(2, 2), 5);
        due("12: total 2", x.weight(2, NONE), 36);
        due("12: height 1 stays", x.weight(1, NONE), 30);
        due("12: height 0", x.weight(0, NONE), OUTSIDE);
        due("12: height 3", x.weight(3, 0), OUTSIDE);
        due("12: node 3", x.weight(1, 3), UNKNOWN);
        due("12: unknown first", x.weight(0, 3), UNKNOWN);
        for (int far : FAR) {
            due("12: height far", x.weight(far, 0), OUTSIDE);
            due("12: node far", x.weight(1, far), UNKNOWN);
        }
        FaultEvidence big = begun(MOST, MOST, MOST, MOST, MOST, MOST, MOST, MOST);
        due("12: above an int", big.weight(1, NONE), 8 * MOST);
    }

    // ---- 13
    private static void backed() {
        FaultEvidence x = begun(MOST, MOST, MOST, 7);
        for (int node = 0; node < 3; node++) {
            x.vote(node, 1, 3, 1, 0);
        }
        x.vote(3, 1, 3, 0, 9);
        x.vote(3, 1, 3, 0, 9);
        x.vote(3, 1, 3, 0, 8);
        due("13: above an int", x.backed(1, 3, 1, 0), 3 * MOST);
        due("13: one", x.backed(1, 3, 0, 9), 7);
        due("13: a node may back two", x.backed(1, 3, 0, 8), 7);
        due("13: other step", x.backed(1, 3, 1, 9), 0);
        due("13: other round", x.backed(1, 2, 0, 9), 0);
        x.add(3, 1);
        x.next();
        due("13: by the weight there", x.backed(1, 3, 0, 9), 7);
        due("13: other height", x.backed(2, 3, 0, 9), 0);
        x.vote(3, 2, 3, 0, 9);
        due("13: by the weight there, too", x.backed(2, 3, 0, 9), 8);
        due("13: height 0", x.backed(0, 0, 0, 0), OUTSIDE);
        due("13: height 3", x.backed(3, 0, 0, 0), OUTSIDE);
        due("13: round 8", x.backed(1, 8, 0, 0), OUTSIDE);
        due("13: step 2", x.backed(1, 0, 2, 0), OUTSIDE);
        due("13: block 10", x.backed(1, 0, 0, 10), OUTSIDE);
        due("13: round -1", x.backed(1, -1, 0, 0), OUTSIDE);
        due("13: step -1", x.backed(1, 0, -1, 0), OUTSIDE);
        due("13: block -1", x.backed(1, 0, 0, -1), OUTSIDE);
        for (int far : FAR) {
            due("13: height far", x.backed(far, 0, 0, 0), OUTSIDE);
            due("13: round far", x.backed(1, far, 0, 0), OUTSIDE);
            due("13: step far", x.backed(1, 0, far, 0), OUTSIDE);
            due("13: block far", x.backed(1, 0, 0, far), OUTSIDE);
        }
    }

    private static void theMost() {
        FaultEvidence x = begun(200, 100);
        x.vote(0, 1, 0, 1, 1);
        due("14: two thirds are not the most", x.certain(1, 0), NONE);
        FaultEvidence y = begun(201, 100);
        y.vote(0, 1, 0, 1, 1);
        due("14: a little more is", y.certain(1, 0), 1);
        y.vote(0, 1, 0, 0, 1);
        due("15: and it backs", y.breaks(1, BARE), 0);
        FaultEvidence z = begun(MOST, MOST, MOST);
        z.vote(0, 1, 0, 1, 1);
        z.vote(1, 1, 0, 1, 1);
        due("14: two big of three", z.certain(1, 0), NONE);
        z.vote(2, 1, 0, 1, 1);
        due("14: three big of three", z.certain(1, 0), 1);
    }

    // ---- 14
    private static void certain() {
        FaultEvidence x = begun(2, 1);
        x.vote(0, 1, 0, 1, 9);
        x.vote(1, 1, 1, 1, 9);
        due("14: rounds are not put together", x.certain(1, 0), NONE);
        x.vote(1, 1, 0, 1, 9);
        due("14: nine", x.certain(1, 0), 9);
        x.vote(0, 1, 7, 1, 2);
        x.vote(1, 1, 7, 1, 2);
        x.vote(0, 1, 6, 1, 2);
        x.vote(1, 1, 6, 1, 2);
        x.vote(0, 1, 5, 1, 0);
        x.vote(1, 1, 5, 1, 0);
        x.vote(0, 1, 5, 0, 3);
        x.vote(1, 1, 5, 0, 3);
        due("14: the least first", x.certain(1, 0), 2);
        due("14: then nine", x.certain(1, 1), 9);
        due("14: no third, no none, no step 0", x.certain(1, 2), NONE);
        due("14: i -1", x.certain(1, -1), NONE);
        due("14: height 0", x.certain(0, 0), OUTSIDE);
        due("14: height 2", x.certain(2, 0), OUTSIDE);
        for (int far : FAR) {
            due("14: i far", x.certain(1, far), NONE);
            due("14: height far", x.certain(far, 0), OUTSIDE);
        }
        x.next();
        due("14: other height", x.certain(2, 0), NONE);
    }

    // ---- 15
    private static void breaksTwice() {
        FaultEvidence x = begun(1, 1, 1);
        x.vote(0, 1, 0, 0, 0);
        x.vote(1, 1, 0, 0, 1);
        x.vote(0, 1, 1, 0, 2);
        x.vote(0, 1, 0, 1, 0);
        due("15: none yet", x.breaks(1, TWICE), 0);
        x.vote(0, 1, 0, 0, 3);
        due("15: none and a block", x.breaks(1, TWICE), 1);
        x.vote(0, 1, 0, 0, 4);
        due("15: each two of three", x.breaks(1, TWICE), 3);
        x.accuse(TWICE, 0, 4, 1);
        due("15: taken or not", x.breaks(1, TWICE), 3);
        x.next();
        x.vote(0, 2, 0, 0, 5);
        due("15: other height", x.breaks(2, TWICE), 0);
        due("15: height 0", x.breaks(0, TWICE), OUTSIDE);
        due("15: height 3", x.breaks(3, TWICE), OUTSIDE);
        due("15: kind 3", x.breaks(1, 3), OUTSIDE);
        due("15: kind -1", x.breaks(1, -1), OUTSIDE);
        for (int far : FAR) {
            due("15: height far", x.breaks(far, 0), OUTSIDE);
            due("15: kind far", x.breaks(1, far), OUTSIDE);
        }
    }

    private static void breaksLock() {
        FaultEvidence x = begun(1, 1, 1, 1);
        x.vote(0, 1, 2, 1, 5);
        x.vote(0, 1, 2, 0, 6);
        due("15: same round", x.breaks(1, LOCK), 0);
        x.vote(0, 1, 1, 0, 7);
        due("15: earlier round", x.breaks(1, LOCK), 0);
        x.vote(0, 1, 4, 0, 5);
        due("15: same block", x.breaks(1, LOCK), 0);
        x.vote(0, 1, 4, 0, 0);
        due("15: for none", x.breaks(1, LOCK), 0);
        x.vote(0, 1, 3, 1, 8);
        due("15: step 1, which is a lock on 8", x.breaks(1, LOCK), 1);
        x.vote(1, 1, 4, 0, 6);
        due("15: another node", x.breaks(1, LOCK), 1);
        x.vote(0, 1, 4, 0, 6);
        due("15: against both locks", x.breaks(1, LOCK), 3);
        x.vote(2, 1, 4, 0, 6);
        due("15: backed in the later round itself", x.breaks(1, LOCK), 3);
        x.vote(1, 1, 2, 0, 6);
        x.vote(2, 1, 2, 0, 6);
        due("15: backed in the round of the first lock", x.breaks(1, LOCK), 2);
        x.vote(0, 1, 7, 0, 6);
        due("15: backed in between for both", x.breaks(1, LOCK), 2);
        FaultEvidence y = begun(1, 1, 1);
        y.vote(0, 1, 0, 1, 0);
        y.vote(0, 1, 1, 0, 3);
        due("15: none locks nothing", y.breaks(1, LOCK), 0);
        y.next();
        y.vote(0, 2, 0, 1, 3);
        y.vote(0, 1, 2, 0, 4);
        due("15: other heights lock nothing", y.breaks(1, LOCK) + y.breaks(2, LOCK), 0);
    }

    private static void breaksBare() {
        FaultEvidence x = begun(1, 1, 1, 1);
        x.vote(0, 1, 2, 1, 5);
        x.vote(1, 1, 2, 1, 5);
        x.vote(2, 1, 2, 1, 0);
        x.vote(2, 1, 2, 0, 6);
        due("15: two bare", x.breaks(1, BARE), 2);
        for (int node = 0; node < 3; node++) {
            x.vote(node, 1, 1, 0, 5);
            x.vote(node, 1, 3, 0, 5);
            x.vote(node, 1, 2, 0, 4);
        }
        due("15: other rounds and blocks do not help", x.breaks(1, BARE), 2);
        x.vote(2, 1, 2, 0, 5);
        x.vote(3, 1, 2, 0, 5);
        due("15: half is not enough", x.breaks(1, BARE), 2);
        x.vote(0, 1, 2, 0, 5);
        due("15: backed", x.breaks(1, BARE), 0);
    }

    // ---- 16
    private static void broken() {
        FaultEvidence x = begun(1, 1, 1);
        x.vote(0, 1, 3, 0, 2);
        x.vote(1, 1, 0, 0, 9);
        x.vote(0, 1, 1, 1, 1);
        x.vote(0, 1, 3, 0, 1);
        x.vote(1, 1, 0, 0, 4);
        x.vote(0, 1, 2, 1, 3);
        x.vote(0, 1, 3, 0, 3);
        expectBroken(x, TWICE, new int[][] {{0, 3}, {0, 6}, {1, 4}, {3, 6}});
        expectBroken(x, LOCK, new int[][] {{2, 0}, {2, 6}, {5, 0}, {5, 3}});
        expectBroken(x, BARE, new int[][] {{2, NONE}, {5, NONE}});
        due("16: what 2", x.broken(1, TWICE, 0, 2), OUTSIDE);
        due("16: what -1", x.broken(1, TWICE, 0, -1), OUTSIDE);
        due("16: kind 3", x.broken(1, 3, 0, 0), OUTSIDE);
        due("16: kind -1", x.broken(1, -1, 0, 0), OUTSIDE);
        due("16: height 0", x.broken(0, TWICE, 0, 0), OUTSIDE);
        due("16: height 2", x.broken(2, TWICE, 0, 0), OUTSIDE);
        due("16: outside first", x.broken(1, TWICE, 99, 2), OUTSIDE);
        for (int far : FAR) {
            due("16: height far", x.broken(far, 0, 0, 0), OUTSIDE);
            due("16: kind far", x.broken(1, far, 0, 0), OUTSIDE);
            due("16: i far", x.broken(1, 0, far, 0), NONE);
            due("16: what far", x.broken(1, 0, 0, far), OUTSIDE);
        }
    }

    private static void expectBroken(FaultEvidence x, int kind, int[][] want) {
        due("16: how many of kind " + kind, x.breaks(1, kind), want.length);
        for (int i = 0; i < want.length; i++) {
            due("16: a of break " + i + " of kind " + kind, x.broken(1, kind, i, 0), want[i][0]);
            due("16: b of break " + i + " of kind " + kind, x.broken(1, kind, i, 1), want[i][1]);
        }
        due("16: none behind", x.broken(1, kind, want.length, 0), NONE);
        due("16: none behind, b", x.broken(1, kind, want.length, 1), NONE);
        due("16: none before", x.broken(1, kind, -1, 0), NONE);
    }

    // ---- 17
    private static void named() {
        FaultEvidence x = begun(1, 1, 1, 1, 1, 1, 1, 1);
        due("17: nobody", x.named(1), 0);
        x.vote(7, 1, 0, 0, 1);
        x.vote(7, 1, 0, 0, 2);
        due("17: twice", x.named(1), 128);
        x.vote(4, 1, 0, 1, 1);
        due("17: bare", x.named(1), 128 + 16);
        for (int node = 0; node < 6; node++) {
            x.vote(node, 1, 0, 0, 1);
        }
        due("17: bare no more", x.named(1), 128);
        x.vote(4, 1, 1, 0, 2);
        due("17: lock", x.named(1), 128 + 16);
        x.vote(4, 1, 2, 0, 2);
        x.accuse(TWICE, 0, 1, NONE);
        due("17: once each, taken or not", x.named(1), 128 + 16);
        x.next();
        due("17: other height", x.named(2), 0);
        FaultEvidence y = begun(1, 1);
        y.vote(1, 1, 0, 1, 1);
        due("17: by the first vote alone", y.named(1), 2);
        due("17: height 0", x.named(0), OUTSIDE);
        due("17: height 3", x.named(3), OUTSIDE);
        for (int far : FAR) {
            due("17: height far", x.named(far), OUTSIDE);
        }
    }

    // ---- 18
    private static void taken() {
        FaultEvidence x = begun(1000, 1000);
        x.vote(0, 1, 0, 1, 1);
        x.vote(0, 1, 0, 1, 2);
        x.vote(0, 1, 1, 0, 2);
        x.accuse(TWICE, 1, 0, 1);
        forward(x, 3);
        x.accuse(BARE, 1, 0, NONE);
        x.set(1, 500);
        x.accuse(LOCK, 0, 2, 0);
        long[][] want = {{0, 0, 1, 1, 1, 50, 5}, {2, 1, NONE, NONE, 4, 190, 0}, {1, 0, 2, 0, 4, 380, 38}};
        for (int i = 0; i < want.length; i++) {
            for (int what = 0; what < 7; what++) {
                due("18: taken(" + i + ", " + what + ")", x.taken(i, what), want[i][what]);
            }
        }
        due("18: taken(3, 0)", x.taken(3, 0), UNKNOWN);
        due("18: taken(-1, 0)", x.taken(-1, 0), UNKNOWN);
        due("18: unknown first", x.taken(3, 7), UNKNOWN);
        due("18: taken(0, 7)", x.taken(0, 7), OUTSIDE);
        due("18: taken(0, -1)", x.taken(0, -1), OUTSIDE);
        for (int far : FAR) {
            due("18: i far", x.taken(far, 0), UNKNOWN);
            due("18: what far", x.taken(0, far), OUTSIDE);
        }
    }
}
