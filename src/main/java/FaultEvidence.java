import java.util.ArrayList;

/** Keeps votes of weighted nodes, tells which rules they break, and takes stakes for it. */
public final class FaultEvidence {
    public static final int NONE = -1, UNKNOWN = -101, OUTSIDE = -102, STATE = -103, ROOM = -104, NOT = -105, EARLY = -106, LATE = -107, DONE = -108;

    private static final int MAX_NODES = 8, MAX_HEIGHT = 40, MAX_VOTES = 300;
    private static final int ROUNDS = 8, STEPS = 2, BLOCKS = 10;
    private static final int KINDS = 3, TWICE = 0, LOCK = 1, BARE = 2;
    private static final long MAX_STAKE = 1000000000L;
    /** No refusal has this number. */
    private static final int FINE = 0;

    /** The rules are numbered as set() numbers them: the three rates come first. */
    private static final int RULES = 5, SPAN = 3, LEAST = 4;
    private static final long[] RULE_FROM = {0L, 0L, 0L, 2L, 0L};
    private static final long[] RULE_TO = {1000L, 1000L, 1000L, 20L, 1000000000L};

    /**
     * A vote is held as one number, from its high bits on: height, node, round, step, block.
     * So equal votes are equal numbers, and votes alike but for the block differ in the low bits alone.
     */
    private static final int BLOCK_BITS = 4, STEP_SHIFT = 4, ROUND_SHIFT = 5, NODE_SHIFT = 8, HEIGHT_SHIFT = 11;
    private static final int NODE_MASK = 7 << NODE_SHIFT;

    /** A break that was taken. */
    private static final class Taken {
        private final int kind;
        private final int first;
        private final int second;
        private final int accuser;
        private final int heightThen;
        private final long cost;
        private final long reward;

        private Taken(int kind, int first, int second, int accuser, int heightThen, long cost, long reward) {
            this.kind = kind;
            this.first = first;
            this.second = second;
            this.accuser = accuser;
            this.heightThen = heightThen;
            this.cost = cost;
            this.reward = reward;
        }
    }

    private final long[] rules = {50L, 100L, 200L, 10L, 0L};
    private final long[] stakes = new long[MAX_NODES];
    private final long[] purses = new long[MAX_NODES];
    private final boolean[] out = new boolean[MAX_NODES];
    private int nodeCount = 0;

    private int currentHeight = 0;
    private final long[] weights = new long[(MAX_HEIGHT + 1) * MAX_NODES];
    private final long[] totals = new long[MAX_HEIGHT + 1];

    private final int[] votes = new int[MAX_VOTES];
    private int voteCount = 0;

    /**
     * Sets of blocks (bit b: block b), by height and round, and by height. Votes are never dropped and
     * weights of a height never change, so what is in such a set stays there.
     */
    private final int[] backedBlocks = new int[(MAX_HEIGHT + 1) * ROUNDS];
    private final int[] certainBlocks = new int[MAX_HEIGHT + 1];

    private final ArrayList<Taken> takenBreaks = new ArrayList<>();
    private long burnt = 0L;

    public FaultEvidence() {
    }

    // ---- what changes the state

    public int node(long stake) {
        if (stake < 1L || stake > MAX_STAKE) {
            return OUTSIDE;
        }
        if (nodeCount >= MAX_NODES) {
            return ROOM;
        }
        stakes[nodeCount] = stake;
        nodeCount++;
        return nodeCount - 1;
    }

    public long add(int node, long more) {
        if (!isNode(node)) {
            return UNKNOWN;
        }
        if (more < 1L || more > MAX_STAKE || stakes[node] + more > MAX_STAKE) {
            return OUTSIDE;
        }
        stakes[node] += more;
        return stakes[node];
    }

    public int next() {
        if (currentHeight >= MAX_HEIGHT) {
            return ROOM;
        }
        currentHeight++;
        weighNodes(currentHeight);
        return currentHeight;
    }

    public long set(int what, long v) {
        if (what < 0 || what >= RULES || v < RULE_FROM[what] || v > RULE_TO[what]) {
            return OUTSIDE;
        }
        long before = rules[what];
        rules[what] = v;
        return before;
    }

    public int vote(int node, int height, int round, int step, int block) {
        int refusal = voteRefusal(node, height, round, step, block);
        if (refusal != FINE) {
            return refusal;
        }
        int vote = packed(node, height, round, step, block);
        int number = numberOf(vote);
        if (number != NONE) {
            return number;
        }
        if (voteCount >= MAX_VOTES) {
            return ROOM;
        }
        keep(vote);
        return voteCount - 1;
    }

    public int may(int node, int height, int round, int step, int block) {
        int refusal = voteRefusal(node, height, round, step, block);
        if (refusal != FINE) {
            return refusal;
        }
        return makesBreak(packed(node, height, round, step, block)) ? 0 : 1;
    }

    public long accuse(int kind, int a, int b, int by) {
        int refusal = accuseRefusal(kind, a, b, by);
        if (refusal != FINE) {
            return refusal;
        }
        if (kind == TWICE) {
            return take(kind, Math.min(a, b), Math.max(a, b), by);
        }
        return take(kind, a, kind == BARE ? NONE : b, by);
    }

    // ---- what is told

    public long about(int what) {
        switch (what) {
            case 0: return currentHeight;
            case 1: return nodeCount;
            case 2: return voteCount;
            case 3: return takenBreaks.size();
            case 4: return burnt;
            case 5: return rules[TWICE];
            case 6: return rules[LOCK];
            case 7: return rules[BARE];
            case 8: return rules[SPAN];
            case 9: return rules[LEAST];
            default: return OUTSIDE;
        }
    }

    public long holds(int node, int what) {
        if (!isNode(node)) {
            return UNKNOWN;
        }
        switch (what) {
            case 0: return stakes[node];
            case 1: return purses[node];
            case 2: return out[node] ? 1L : 0L;
            case 3: return countTakenOf(node);
            default: return OUTSIDE;
        }
    }

    public int said(int vote, int what) {
        if (!isVote(vote)) {
            return UNKNOWN;
        }
        switch (what) {
            case 0: return nodeOf(votes[vote]);
            case 1: return heightOf(votes[vote]);
            case 2: return roundOf(votes[vote]);
            case 3: return stepOf(votes[vote]);
            case 4: return blockOf(votes[vote]);
            default: return OUTSIDE;
        }
    }

    public long weight(int height, int node) {
        if (!isNodeOrNone(node)) {
            return UNKNOWN;
        }
        if (!hasBegun(height)) {
            return OUTSIDE;
        }
        return node == NONE ? totals[height] : weights[weightIndex(height, node)];
    }

    public long backed(int height, int round, int step, int block) {
        if (!hasBegun(height) || !isSayable(round, step, block)) {
            return OUTSIDE;
        }
        return weightFor(packed(0, height, round, step, block));
    }

    public int certain(int height, int i) {
        if (!hasBegun(height)) {
            return OUTSIDE;
        }
        int found = 0;
        for (int block = 1; block < BLOCKS; block++) {
            if (hasBlock(certainBlocks[height], block)) {
                if (found == i) {
                    return block;
                }
                found++;
            }
        }
        return NONE;
    }

    public int breaks(int height, int kind) {
        if (!hasBegun(height) || !isKind(kind)) {
            return OUTSIDE;
        }
        int count = 0;
        for (int a = 0; a < voteCount; a++) {
            if (heightOf(votes[a]) == height) {
                count += countBreaksFrom(kind, a);
            }
        }
        return count;
    }

    public int broken(int height, int kind, int i, int what) {
        if (!hasBegun(height) || !isKind(kind) || what < 0 || what > 1) {
            return OUTSIDE;
        }
        if (i < 0) {
            return NONE;
        }
        int left = i;
        for (int a = 0; a < voteCount; a++) {
            if (heightOf(votes[a]) == height) {
                int here = countBreaksFrom(kind, a);
                if (left < here) {
                    return what == 0 ? a : partner(kind, a, left);
                }
                left -= here;
            }
        }
        return NONE;
    }

    public int named(int height) {
        if (!hasBegun(height)) {
            return OUTSIDE;
        }
        int nodes = 0;
        for (int a = 0; a < voteCount; a++) {
            int bit = 1 << nodeOf(votes[a]);
            if (heightOf(votes[a]) == height && (nodes & bit) == 0 && makesBreak(votes[a])) {
                nodes |= bit;
            }
        }
        return nodes;
    }

    public long taken(int i, int what) {
        if (i < 0 || i >= takenBreaks.size()) {
            return UNKNOWN;
        }
        Taken one = takenBreaks.get(i);
        switch (what) {
            case 0: return one.kind;
            case 1: return one.first;
            case 2: return one.second;
            case 3: return one.accuser;
            case 4: return one.heightThen;
            case 5: return one.cost;
            case 6: return one.reward;
            default: return OUTSIDE;
        }
    }

    // ---- what a number names

    private boolean isNode(int node) {
        return node >= 0 && node < nodeCount;
    }

    private boolean isNodeOrNone(int node) {
        return node == NONE || isNode(node);
    }

    private boolean isVote(int number) {
        return number >= 0 && number < voteCount;
    }

    private static boolean isKind(int kind) {
        return kind >= 0 && kind < KINDS;
    }

    private static boolean isSayable(int round, int step, int block) {
        return round >= 0 && round < ROUNDS && step >= 0 && step < STEPS && block >= 0 && block < BLOCKS;
    }

    private boolean hasBegun(int height) {
        return height >= 1 && height <= currentHeight;
    }

    private boolean isOpen(int height) {
        return hasBegun(height) && currentHeight - height <= 1;
    }

    // ---- votes as numbers

    private static int packed(int node, int height, int round, int step, int block) {
        return (height << HEIGHT_SHIFT) | (node << NODE_SHIFT) | (round << ROUND_SHIFT) | (step << STEP_SHIFT) | block;
    }

    private static int heightOf(int vote) {
        return vote >> HEIGHT_SHIFT;
    }

    private static int nodeOf(int vote) {
        return (vote >> NODE_SHIFT) & (MAX_NODES - 1);
    }

    private static int roundOf(int vote) {
        return (vote >> ROUND_SHIFT) & (ROUNDS - 1);
    }

    private static int stepOf(int vote) {
        return (vote >> STEP_SHIFT) & (STEPS - 1);
    }

    private static int blockOf(int vote) {
        return vote & ((1 << BLOCK_BITS) - 1);
    }

    /** The node and the height of a vote, as one number. */
    private static int voterOf(int vote) {
        return vote >> NODE_SHIFT;
    }

    // ---- weights

    private static int weightIndex(int height, int node) {
        return height * MAX_NODES + node;
    }

    private void weighNodes(int height) {
        long total = 0L;
        for (int node = 0; node < nodeCount; node++) {
            long weight = out[node] ? 0L : stakes[node];
            weights[weightIndex(height, node)] = weight;
            total += weight;
        }
        totals[height] = total;
    }

    /** The weights of the nodes that have this vote, whichever node it is written for. */
    private long weightFor(int vote) {
        int wanted = vote & ~NODE_MASK;
        int height = heightOf(vote);
        long sum = 0L;
        for (int v = 0; v < voteCount; v++) {
            if ((votes[v] & ~NODE_MASK) == wanted) {
                sum += weights[weightIndex(height, nodeOf(votes[v]))];
            }
        }
        return sum;
    }

    private boolean isTheMost(int height, long weight) {
        return 3L * weight > 2L * totals[height];
    }

    // ---- keeping votes

    private int voteRefusal(int node, int height, int round, int step, int block) {
        if (!isNode(node)) {
            return UNKNOWN;
        }
        if (!isOpen(height) || !isSayable(round, step, block)) {
            return OUTSIDE;
        }
        return weights[weightIndex(height, node)] == 0L ? STATE : FINE;
    }

    private int numberOf(int vote) {
        for (int v = 0; v < voteCount; v++) {
            if (votes[v] == vote) {
                return v;
            }
        }
        return NONE;
    }

    private void keep(int vote) {
        votes[voteCount] = vote;
        voteCount++;
        if (blockOf(vote) > 0 && isTheMost(heightOf(vote), weightFor(vote))) {
            noteTheMost(vote);
        }
    }

    private void noteTheMost(int vote) {
        int bit = 1 << blockOf(vote);
        if (stepOf(vote) == 0) {
            backedBlocks[heightOf(vote) * ROUNDS + roundOf(vote)] |= bit;
        } else {
            certainBlocks[heightOf(vote)] |= bit;
        }
    }

    private static boolean hasBlock(int blocks, int block) {
        return (blocks & (1 << block)) != 0;
    }

    private boolean isBacked(int height, int round, int block) {
        return hasBlock(backedBlocks[height * ROUNDS + round], block);
    }

    // ---- breaks

    private static boolean isTwice(int vote, int other) {
        return vote != other && vote >> BLOCK_BITS == other >> BLOCK_BITS;
    }

    /** Whether a vote may be the first one of a break of the kind lock, or bare. */
    private static boolean isLocking(int vote) {
        return stepOf(vote) == 1 && blockOf(vote) > 0;
    }

    private boolean isLock(int vote, int later) {
        if (!isLocking(vote) || voterOf(vote) != voterOf(later) || roundOf(vote) >= roundOf(later)) {
            return false;
        }
        int block = blockOf(later);
        if (stepOf(later) != 0 || block == 0 || block == blockOf(vote)) {
            return false;
        }
        return !isUnlocked(heightOf(later), block, roundOf(vote), roundOf(later));
    }

    private boolean isUnlocked(int height, int block, int from, int before) {
        for (int round = from; round < before; round++) {
            if (isBacked(height, round, block)) {
                return true;
            }
        }
        return false;
    }

    private boolean isBare(int vote) {
        return isLocking(vote) && !isBacked(heightOf(vote), roundOf(vote), blockOf(vote));
    }

    private boolean isPair(int kind, int vote, int other) {
        return kind == TWICE ? isTwice(vote, other) : isLock(vote, other);
    }

    /**
     * Whether a vote, kept or not, is part of a break. One that is not kept need not be added first: a vote in
     * step 0 backs its block in its own round only, and no break that it is part of looks at that round.
     */
    private boolean makesBreak(int vote) {
        if (isBare(vote)) {
            return true;
        }
        int voter = voterOf(vote);
        for (int v = 0; v < voteCount; v++) {
            if (votes[v] >> NODE_SHIFT == voter && isClash(vote, votes[v])) {
                return true;
            }
        }
        return false;
    }

    private boolean isClash(int vote, int other) {
        return isTwice(vote, other) || isLock(vote, other) || isLock(other, vote);
    }

    private int countBreaksFrom(int kind, int a) {
        int vote = votes[a];
        if (kind == BARE) {
            return isBare(vote) ? 1 : 0;
        }
        if (kind == LOCK && !isLocking(vote)) {
            return 0;
        }
        int voter = voterOf(vote);
        int count = 0;
        for (int b = firstPartner(kind, a); b < voteCount; b++) {
            // Most votes are another voter's: the shift alone, without calls, passes them by.
            if (votes[b] >> NODE_SHIFT == voter && isPair(kind, vote, votes[b])) {
                count++;
            }
        }
        return count;
    }

    /** The vote b of the i-th break that has a as its first vote. */
    private int partner(int kind, int a, int i) {
        if (kind == BARE) {
            return NONE;
        }
        int left = i;
        for (int b = firstPartner(kind, a); b < voteCount; b++) {
            if (isPair(kind, votes[a], votes[b])) {
                if (left == 0) {
                    return b;
                }
                left--;
            }
        }
        return NONE;
    }

    /** Two votes are one break of the kind twice, so only the later one is a partner there. */
    private static int firstPartner(int kind, int a) {
        return kind == TWICE ? a + 1 : 0;
    }

    // ---- taking breaks

    private int accuseRefusal(int kind, int a, int b, int by) {
        if (!isVote(a) || (kind != BARE && !isVote(b)) || !isNodeOrNone(by)) {
            return UNKNOWN;
        }
        if (!isKind(kind)) {
            return OUTSIDE;
        }
        int vote = votes[a];
        if (!(kind == BARE ? isBare(vote) : isPair(kind, vote, votes[b]))) {
            return NOT;
        }
        if (kind != TWICE && isOpen(heightOf(vote))) {
            return EARLY;
        }
        if (currentHeight - heightOf(vote) > rules[SPAN]) {
            return LATE;
        }
        return wasTaken(kind, voterOf(vote)) ? DONE : FINE;
    }

    private boolean wasTaken(int kind, int voter) {
        for (int i = 0; i < takenBreaks.size(); i++) {
            Taken one = takenBreaks.get(i);
            if (one.kind == kind && voterOf(votes[one.first]) == voter) {
                return true;
            }
        }
        return false;
    }

    private int countTakenOf(int node) {
        int count = 0;
        for (int i = 0; i < takenBreaks.size(); i++) {
            if (nodeOf(votes[takenBreaks.get(i).first]) == node) {
                count++;
            }
        }
        return count;
    }

    private long take(int kind, int first, int second, int by) {
        int node = nodeOf(votes[first]);
        long cost = stakes[node] * rules[kind] / 1000L;
        long reward = by == NONE ? 0L : cost / 10L;
        stakes[node] -= cost;
        burnt += cost - reward;
        if (by != NONE) {
            purses[by] += reward;
        }
        if (stakes[node] < rules[LEAST]) {
            out[node] = true;
        }
        takenBreaks.add(new Taken(kind, first, second, by, currentHeight, cost, reward));
        return cost;
    }
}
