import java.util.ArrayList;
import java.util.List;
import java.util.Random;
import java.util.TreeSet;
import java.util.function.ToLongFunction;

/**
 * Random runs with fixed seeds, each answer beside that of a second, plain reading of the document which keeps
 * nothing but what came and works everything out anew.
 */
public final class ModelTest {
    private static final int RUNS = 500;
    /** An object has at most 512 calls; those that may change it are fewer, so that some are left for questions. */
    private static final int CALLS = 512, CHANGES = 430;
    private static final int NONE = -1, UNKNOWN = -101, OUTSIDE = -102, STATE = -103, ROOM = -104;
    private static final int NOT = -105, EARLY = -106, LATE = -107, DONE = -108;

    private static int wrong = 0;

    record Vote(int node, int height, int round, int step, int block) { }

    record Pair(int a, int b) { }

    static final class Node {
        long stake, purse;
        boolean out;
    }

    static final class Model {
        final List<Node> nodes = new ArrayList<>();
        final List<List<Long>> weights = new ArrayList<>();
        final List<Vote> votes = new ArrayList<>();
        final List<long[]> taken = new ArrayList<>();
        final long[] rules = {50, 100, 200, 10, 0};
        long burnt;
        int height;

        Model() {
            weights.add(new ArrayList<>());
        }

        boolean known(int i, List<?> list) {
            return 0 <= i && i < list.size();
        }

        static boolean in(long v, long from, long to) {
            return from <= v && v <= to;
        }

        long node(long stake) {
            if (!in(stake, 1, 1000000000)) return OUTSIDE;
            if (nodes.size() == 8) return ROOM;
            Node n = new Node();
            n.stake = stake;
            nodes.add(n);
            return nodes.size() - 1;
        }

        long add(int node, long more) {
            if (!known(node, nodes)) return UNKNOWN;
            if (!in(more, 1, 1000000000) || nodes.get(node).stake + more > 1000000000) return OUTSIDE;
            return nodes.get(node).stake += more;
        }

        long next() {
            if (height == 40) return ROOM;
            List<Long> row = new ArrayList<>();
            for (Node n : nodes) row.add(n.out ? 0L : n.stake);
            weights.add(row);
            return ++height;
        }

        long set(int what, long v) {
            if (!in(what, 0, 4)) return OUTSIDE;
            if (what <= 2 && !in(v, 0, 1000)) return OUTSIDE;
            if (what == 3 && !in(v, 2, 20)) return OUTSIDE;
            if (what == 4 && !in(v, 0, 1000000000)) return OUTSIDE;
            long was = rules[what];
            rules[what] = v;
            return was;
        }

        long weightAt(int h, int node) {
            return node < weights.get(h).size() ? weights.get(h).get(node) : 0;
        }

        long total(int h) {
            long sum = 0;
            for (long w : weights.get(h)) sum += w;
            return sum;
        }

        boolean open(int h) {
            return height == h || height == h + 1;
        }

        long voteRefusal(Vote v) {
            if (!known(v.node, nodes)) return UNKNOWN;
            if (v.height < 1 || !open(v.height)) return OUTSIDE;
            if (!in(v.round, 0, 7) || !in(v.step, 0, 1) || !in(v.block, 0, 9)) return OUTSIDE;
            return weightAt(v.height, v.node) == 0 ? STATE : 0;
        }

        long vote(Vote v) {
            long refusal = voteRefusal(v);
            if (refusal != 0) return refusal;
            if (votes.contains(v)) return votes.indexOf(v);
            if (votes.size() == 300) return ROOM;
            votes.add(v);
            return votes.size() - 1;
        }

        long weightFor(int h, int round, int step, int block) {
            TreeSet<Integer> who = new TreeSet<>();
            for (Vote v : votes) {
                if (v.height == h && v.round == round && v.step == step && v.block == block) who.add(v.node);
            }
            long sum = 0;
            for (int node : who) sum += weightAt(h, node);
            return sum;
        }

        boolean most(int h, int round, int step, int block) {
            return 3 * weightFor(h, round, step, block) > 2 * total(h);
        }

        boolean isBreak(int kind, Vote a, Vote b) {
            if (kind == 2) return a.step == 1 && a.block > 0 && !most(a.height, a.round, 0, a.block);
            if (a.node != b.node || a.height != b.height) return false;
            if (kind == 0) return a.round == b.round && a.step == b.step && a.block != b.block;
            if (a.step != 1 || a.block == 0 || b.step != 0 || b.block == 0) return false;
            if (b.round <= a.round || a.block == b.block) return false;
            for (int r = a.round; r <= b.round - 1; r++) {
                if (most(a.height, r, 0, b.block)) return false;
            }
            return true;
        }

        /** The vote is really added, and taken away again. */
        long may(Vote v) {
            long refusal = voteRefusal(v);
            if (refusal != 0) return refusal;
            boolean isNew = !votes.contains(v);
            if (isNew) votes.add(v);
            boolean bad = isBreak(2, v, v);
            for (Vote w : votes) {
                bad |= isBreak(0, v, w) || isBreak(1, v, w) || isBreak(1, w, v);
            }
            if (isNew) votes.remove(votes.size() - 1);
            return bad ? 0 : 1;
        }

        long accuse(int kind, int a, int b, int by) {
            if (!known(a, votes)) return UNKNOWN;
            if (kind != 2 && !known(b, votes)) return UNKNOWN;
            if (by != NONE && !known(by, nodes)) return UNKNOWN;
            if (!in(kind, 0, 2)) return OUTSIDE;
            Vote first = votes.get(a);
            if (!isBreak(kind, first, kind == 2 ? null : votes.get(b))) return NOT;
            if (kind != 0 && open(first.height)) return EARLY;
            if (height > first.height + rules[3]) return LATE;
            for (long[] t : taken) {
                Vote other = votes.get((int) t[1]);
                if (t[0] == kind && other.node == first.node && other.height == first.height) return DONE;
            }
            Node n = nodes.get(first.node);
            long cost = n.stake * rules[kind] / 1000;
            long reward = 0;
            n.stake -= cost;
            if (by != NONE) {
                reward = cost / 10;
                nodes.get(by).purse += reward;
            }
            burnt += cost - reward;
            if (n.stake < rules[4]) n.out = true;
            long shownA = kind == 0 ? Math.min(a, b) : a;
            long shownB = kind == 2 ? NONE : kind == 0 ? Math.max(a, b) : b;
            taken.add(new long[] {kind, shownA, shownB, by, height, cost, reward});
            return cost;
        }

        long about(int what) {
            long[] all = {height, nodes.size(), votes.size(), taken.size(), burnt,
                rules[0], rules[1], rules[2], rules[3], rules[4]};
            return in(what, 0, 9) ? all[what] : OUTSIDE;
        }

        long holds(int node, int what) {
            if (!known(node, nodes)) return UNKNOWN;
            if (!in(what, 0, 3)) return OUTSIDE;
            long count = 0;
            for (long[] t : taken) if (votes.get((int) t[1]).node == node) count++;
            Node n = nodes.get(node);
            return new long[] {n.stake, n.purse, n.out ? 1 : 0, count}[what];
        }

        long said(int vote, int what) {
            if (!known(vote, votes)) return UNKNOWN;
            if (!in(what, 0, 4)) return OUTSIDE;
            Vote v = votes.get(vote);
            return new int[] {v.node, v.height, v.round, v.step, v.block}[what];
        }

        long weight(int h, int node) {
            if (node != NONE && !known(node, nodes)) return UNKNOWN;
            if (!in(h, 1, height)) return OUTSIDE;
            return node == NONE ? total(h) : weightAt(h, node);
        }

        long backed(int h, int round, int step, int block) {
            if (!in(h, 1, height) || !in(round, 0, 7) || !in(step, 0, 1) || !in(block, 0, 9)) return OUTSIDE;
            return weightFor(h, round, step, block);
        }

        List<Integer> certainBlocks(int h) {
            TreeSet<Integer> blocks = new TreeSet<>();
            for (int block = 1; block <= 9; block++) {
                for (int round = 0; round <= 7; round++) {
                    if (most(h, round, 1, block)) blocks.add(block);
                }
            }
            return new ArrayList<>(blocks);
        }

        long certain(int h, int i) {
            if (!in(h, 1, height)) return OUTSIDE;
            List<Integer> blocks = certainBlocks(h);
            return known(i, blocks) ? blocks.get(i) : NONE;
        }

        List<Pair> allBreaks(int h, int kind) {
            List<Pair> found = new ArrayList<>();
            for (int a = 0; a < votes.size(); a++) {
                if (votes.get(a).height != h) continue;
                if (kind == 2) {
                    if (isBreak(2, votes.get(a), null)) found.add(new Pair(a, NONE));
                    continue;
                }
                for (int b = 0; b < votes.size(); b++) {
                    if ((kind == 1 || a < b) && isBreak(kind, votes.get(a), votes.get(b))) found.add(new Pair(a, b));
                }
            }
            return found;
        }

        long breaks(int h, int kind) {
            if (!in(h, 1, height) || !in(kind, 0, 2)) return OUTSIDE;
            return allBreaks(h, kind).size();
        }

        long broken(int h, int kind, int i, int what) {
            if (!in(h, 1, height) || !in(kind, 0, 2) || !in(what, 0, 1)) return OUTSIDE;
            List<Pair> found = allBreaks(h, kind);
            if (!known(i, found)) return NONE;
            return what == 0 ? found.get(i).a : found.get(i).b;
        }

        long named(int h) {
            if (!in(h, 1, height)) return OUTSIDE;
            int nodesNamed = 0;
            for (int kind = 0; kind <= 2; kind++) {
                for (Pair p : allBreaks(h, kind)) nodesNamed |= 1 << votes.get(p.a).node;
            }
            return nodesNamed;
        }

        long taken(int i, int what) {
            if (!known(i, taken)) return UNKNOWN;
            return in(what, 0, 6) ? taken.get(i)[what] : OUTSIDE;
        }
    }

    /** One run: how its arguments are drawn depends on the seed, so that runs differ in kind. */
    static final class Run {
        final int seed;
        final Random random;
        final Model model = new Model();
        final List<ToLongFunction<FaultEvidence>> changes = new ArrayList<>();
        FaultEvidence object = new FaultEvidence();
        int used = 0;
        final int nodes, rounds, blocks, oddOneIn, nextOneIn, votesInHundred;
        final boolean honest;
        /** The votes that may() had answered 0 to, by height and node. */
        final boolean[][] strayed = new boolean[41][8];

        Run(int seed) {
            this.seed = seed;
            random = new Random(seed);
            nodes = 1 + random.nextInt(8);
            rounds = 1 + random.nextInt(8);
            blocks = 1 + random.nextInt(random.nextBoolean() ? 3 : 9);
            oddOneIn = seed % 3 == 0 ? 4 : 40;
            nextOneIn = 10 + random.nextInt(seed % 2 == 0 ? 20 : 300);
            honest = seed % 5 == 0;
            votesInHundred = seed % 7 == 0 ? 75 : 60;
        }

        /** The object, for one more call; when its calls are used up, a new one that had the same changes. */
        FaultEvidence x() {
            if (used == CALLS) {
                object = new FaultEvidence();
                for (ToLongFunction<FaultEvidence> change : changes) {
                    change.applyAsLong(object);
                }
                used = changes.size();
            }
            used++;
            return object;
        }

        long change(ToLongFunction<FaultEvidence> call) {
            long answer = call.applyAsLong(x());
            changes.add(call);
            return answer;
        }

        int pick(int from, int to) {
            if (random.nextInt(oddOneIn * 4) == 0) {
                int[] odd = {from - 1, to + 1, -1, -2, 0, Integer.MIN_VALUE, Integer.MAX_VALUE, random.nextInt()};
                return odd[random.nextInt(odd.length)];
            }
            return from + random.nextInt(Math.max(1, to - from + 1));
        }

        long pickLong(long from, long to) {
            if (random.nextInt(oddOneIn) == 0) {
                long[] odd = {from - 1, from, to, to + 1, 0, -1, Long.MIN_VALUE, Long.MAX_VALUE, random.nextLong()};
                return odd[random.nextInt(odd.length)];
            }
            return from + random.nextInt((int) Math.min(to - from + 1, Integer.MAX_VALUE));
        }

        int pickHeight() {
            return random.nextInt(3) > 0 ? pick(Math.max(1, model.height - 1), model.height) : pick(1, model.height);
        }

        int pickNode() {
            return pick(0, model.nodes.size() - 1);
        }

        int pickVote() {
            return pick(0, model.votes.size() - 1);
        }

        int pickBy() {
            return random.nextInt(4) == 0 ? NONE : pickNode();
        }

        Vote drawVote() {
            int block = random.nextInt(3) == 0 ? 1 : pick(0, blocks);
            return new Vote(pickNode(), pickHeight(), pick(0, rounds - 1), pick(0, 1), block);
        }

        void due(String call, long got, long want) {
            if (got != want && wrong++ < 50) {
                System.out.println("seed " + seed + ": " + call + " answered " + got + ", due is " + want);
            }
        }

        void begin() {
            for (int i = 0; i < nodes; i++) {
                long stake = random.nextInt(3) == 0 ? 1 + random.nextInt(4) : pickLong(1, seed % 4 == 0 ? 1000000000 : 2000);
                due("node", change(x -> x.node(stake)), model.node(stake));
            }
            due("next", change(FaultEvidence::next), model.next());
        }

        void callVote(Vote v) {
            long allowed = model.may(v);
            due("may" + v, x().may(v.node, v.height, v.round, v.step, v.block), allowed);
            if (honest && v.node > 0 && allowed == 0) {
                return;
            }
            long number = model.vote(v);
            due("vote" + v, change(x -> x.vote(v.node, v.height, v.round, v.step, v.block)), number);
            if (number >= 0 && allowed == 0) {
                strayed[v.height][v.node] = true;
            }
        }

        void callAccuse() {
            int kind = pick(0, 2);
            Pair pair = drawPair(kind);
            int a = pair.a, b = pair.b, by = pickBy();
            due("accuse(" + kind + ", " + a + ", " + b + ", " + by + ")", change(x -> x.accuse(kind, a, b, by)), model.accuse(kind, a, b, by));
        }

        /** Mostly a break that there is, so that many are taken. */
        Pair drawPair(int kind) {
            int a = pickVote(), b = pickVote();
            if (random.nextInt(4) > 0 && Model.in(kind, 0, 2) && model.height > 0) {
                int h = pick(Math.max(1, model.height - 12), model.height);
                List<Pair> found = model.allBreaks(h, kind);
                if (!found.isEmpty()) {
                    Pair p = found.get(random.nextInt(found.size()));
                    boolean turn = kind == 0 && random.nextBoolean();
                    a = turn ? p.b : p.a;
                    b = kind == 2 && random.nextBoolean() ? random.nextInt() : turn ? p.a : p.b;
                }
            }
            return new Pair(a, b);
        }

        void callSet() {
            int what = pick(0, 4);
            long v = what == 3 ? pickLong(2, 20) : what == 4 ? pickLong(0, 1500) : pickLong(0, 1000);
            due("set(" + what + ", " + v + ")", change(x -> x.set(what, v)), model.set(what, v));
        }

        void callAsk() {
            int h = pickHeight(), k = pick(0, 2), i = pick(0, 4), what = pick(0, 6), node = pickBy();
            int round = pick(0, rounds - 1), step = pick(0, 1), block = pick(0, blocks), v = pickVote();
            switch (random.nextInt(10)) {
                case 0: due("about " + what, x().about(what + 3), model.about(what + 3)); break;
                case 1: due("holds", x().holds(node, i), model.holds(node, i)); break;
                case 2: due("said", x().said(v, i), model.said(v, i)); break;
                case 3: due("weight", x().weight(h, node), model.weight(h, node)); break;
                case 4: due("backed", x().backed(h, round, step, block), model.backed(h, round, step, block)); break;
                case 5: due("certain", x().certain(h, i), model.certain(h, i)); break;
                case 6: due("breaks", x().breaks(h, k), model.breaks(h, k)); break;
                case 7: due("broken", x().broken(h, k, i, step), model.broken(h, k, i, step)); break;
                case 8: due("named", x().named(h), model.named(h)); break;
                default: due("taken", x().taken(i, what), model.taken(i, what)); break;
            }
        }

        void callOne() {
            int draw = random.nextInt(100);
            if (random.nextInt(nextOneIn) == 0) {
                due("next", change(FaultEvidence::next), model.next());
            } else if (draw < votesInHundred) {
                callVote(drawVote());
            } else if (draw < votesInHundred + 15) {
                callAccuse();
            } else if (draw < votesInHundred + 17) {
                long stake = pickLong(1, 3000);
                due("node", change(x -> x.node(stake)), model.node(stake));
            } else if (draw < votesInHundred + 19) {
                int node = pickNode();
                long more = pickLong(1, 3000);
                due("add", change(x -> x.add(node, more)), model.add(node, more));
            } else if (draw < votesInHundred + 20) {
                callSet();
            } else {
                callAsk();
            }
        }

        /** All that the object tells, once more at the end. */
        void tellAll() {
            for (int what = -1; what <= 10; what++) due("about", x().about(what), model.about(what));
            for (int n = -1; n <= 8; n++) {
                for (int what = 0; what < 4; what++) due("holds", x().holds(n, what), model.holds(n, what));
            }
            for (int v = 0; v <= model.votes.size(); v++) {
                for (int what = 0; what < 5; what++) due("said", x().said(v, what), model.said(v, what));
            }
            for (int i = 0; i <= model.taken.size(); i++) {
                for (int what = 0; what < 7; what++) due("taken", x().taken(i, what), model.taken(i, what));
            }
            for (int h = 0; h <= model.height + 1; h++) tellHeight(h);
        }

        void tellHeight(int h) {
            for (int n = -1; n <= 8; n++) due("weight", x().weight(h, n), model.weight(h, n));
            for (int i = -1; i < 10; i++) due("certain", x().certain(h, i), model.certain(h, i));
            due("named", x().named(h), model.named(h));
            for (int kind = 0; kind < 3; kind++) {
                due("breaks", x().breaks(h, kind), model.breaks(h, kind));
                List<Pair> found = h >= 1 && h <= model.height ? model.allBreaks(h, kind) : List.of();
                for (int i = 0; i < Math.min(40, found.size()); i++) {
                    due("broken a", x().broken(h, kind, i, 0), found.get(i).a);
                    due("broken b", x().broken(h, kind, i, 1), found.get(i).b);
                }
            }
        }

        /** What the document's first sentence says of every run. */
        void sayBlame() {
            for (int h = 1; h <= model.height; h++) {
                int who = x().named(h);
                long blamed = 0;
                for (int n = 0; n < model.nodes.size(); n++) {
                    boolean isNamed = (who >> n & 1) == 1;
                    blamed += isNamed ? x().weight(h, n) : 0;
                    due("node " + n + " is named without a cause", isNamed && !strayed[h][n] ? 1 : 0, 0);
                }
                if (x().certain(h, 1) != NONE) {
                    forks++;
                    due("a third is named", 3 * blamed > x().weight(h, NONE) ? 1 : 0, 1);
                }
            }
        }

        void sayStakes() {
            long paid = 0, burnt = 0;
            for (int i = 0; i < x().about(3); i++) {
                paid += x().taken(i, 6);
                burnt += x().taken(i, 5) - x().taken(i, 6);
            }
            for (int n = 0; n < x().about(1); n++) paid -= x().holds(n, 1);
            due("purses", paid, 0);
            due("burnt", x().about(4), burnt);
        }
    }

    private static int forks = 0;
    private static int takenInAll = 0;

    public static void main(String[] args) {
        for (int seed = 0; seed < RUNS; seed++) {
            Run run = new Run(seed);
            run.begin();
            for (int call = 0; call < 600 && run.changes.size() < CHANGES; call++) {
                run.callOne();
            }
            run.tellAll();
            run.sayBlame();
            run.sayStakes();
            takenInAll += run.model.taken.size();
        }
        if (forks == 0 || takenInAll == 0) {
            wrong++;
            System.out.println("the runs are too tame: " + forks + " forks, " + takenInAll + " breaks taken");
        }
        System.out.println(wrong == 0 ? "the class and the model agree (" + forks + " forks, " + takenInAll + " breaks taken)" : wrong + " answers are not as due");
        if (wrong != 0) {
            System.exit(1);
        }
    }
}
