import java.util.ArrayList;
import java.util.HashSet;
import java.util.LinkedHashSet;
import java.util.List;
import java.util.Random;
import java.util.Set;
import java.util.TreeSet;

/**
 * Many runs of calls, each answer held against two plain readings of the document's Terms that share
 * nothing with the program: rows written out one by one (small models), and what is left of a model
 * behind each name (models of any size). The seeds are fixed, so that every run is the same.
 */
public final class OracleTest {
    private static final int NONE = -1;
    private static int wrong = 0;
    private static long checks = 0;

    public static void main(String[] args) {
        for (int seed = 1; seed <= 1200; seed++) {
            new Run(seed).go(512);
        }
        for (int seed = 1; seed <= 400; seed++) {
            smallModel(new Random(seed));
        }
        for (int seed = 1; seed <= 40; seed++) {
            callsWithoutEnd(new Random(seed));
        }
        System.out.println(wrong == 0 ? "all " + checks + " answers are as due" : wrong + " answers are not as due");
        if (wrong != 0) {
            System.exit(1);
        }
    }

    private static void due(String what, int got, int want) {
        checks++;
        if (got != want) {
            wrong++;
            if (wrong <= 50) {
                System.out.println(what + " answered " + got + ", due is " + want);
            }
        }
    }

    private static int bit(boolean b) {
        return b ? 1 : 0;
    }

    // ---- models as trees

    private interface Node { }
    private record None() implements Node { }
    private record Leaf(int name, int occurrence) implements Node { }
    private record Row(Node a, Node b) implements Node { }
    private record Choice(Node a, Node b) implements Node { }
    private record MayBe(Node a) implements Node { }
    private record SoOften(Node a) implements Node { }
    private record SomeTimes(Node a) implements Node { }

    private static boolean makesNone(Node node) {
        if (node instanceof Row r) {
            return makesNone(r.a) && makesNone(r.b);
        }
        if (node instanceof Choice c) {
            return makesNone(c.a) || makesNone(c.b);
        }
        if (node instanceof SomeTimes s) {
            return makesNone(s.a);
        }
        return !(node instanceof Leaf);
    }

    private static Node rowOf(Node a, Node b) {
        return a instanceof None ? b : b instanceof None ? a : new Row(a, b);
    }

    /** The occurrences that can come first, with what is left of the model behind them. */
    private record Step(Leaf leaf, Node rest) { }

    private static Set<Step> steps(Node node) {
        Set<Step> all = new LinkedHashSet<>();
        if (node instanceof Leaf l) {
            all.add(new Step(l, new None()));
        } else if (node instanceof Row r) {
            for (Step s : steps(r.a)) {
                all.add(new Step(s.leaf, rowOf(s.rest, r.b)));
            }
            if (makesNone(r.a)) {
                all.addAll(steps(r.b));
            }
        } else if (node instanceof Choice c) {
            all.addAll(steps(c.a));
            all.addAll(steps(c.b));
        } else if (node instanceof MayBe m) {
            all.addAll(steps(m.a));
        } else if (node instanceof SoOften o) {
            for (Step s : steps(o.a)) {
                all.add(new Step(s.leaf, rowOf(s.rest, o)));
            }
        } else if (node instanceof SomeTimes t) {
            for (Step s : steps(t.a)) {
                all.add(new Step(s.leaf, rowOf(s.rest, new SoOften(t.a))));
            }
        }
        return all;
    }

    private static Set<Node> behind(Set<Node> rests, int n) {
        Set<Node> all = new LinkedHashSet<>();
        for (Node rest : rests) {
            for (Step s : steps(rest)) {
                if (s.leaf.name == n) {
                    all.add(s.rest);
                }
            }
        }
        return all;
    }

    private static TreeSet<Integer> names(Set<Node> rests) {
        TreeSet<Integer> all = new TreeSet<>();
        for (Node rest : rests) {
            for (Step s : steps(rest)) {
                all.add(s.leaf.name);
            }
        }
        return all;
    }

    /** Follows all rows of occurrences; rows that leave the same rests are followed once. */
    private static boolean deterministic(Node model) {
        Set<Set<Node>> seen = new HashSet<>();
        List<Set<Node>> open = new ArrayList<>();
        open.add(Set.of(model));
        seen.add(Set.of(model));
        for (int at = 0; at < open.size(); at++) {
            Set<Leaf> leaves = new LinkedHashSet<>();
            for (Node rest : open.get(at)) {
                for (Step s : steps(rest)) {
                    leaves.add(s.leaf);
                }
            }
            Set<Integer> met = new HashSet<>();
            for (Leaf leaf : leaves) {
                if (!met.add(leaf.name)) {
                    return false;
                }
                Set<Node> rests = new LinkedHashSet<>();
                for (Node rest : open.get(at)) {
                    for (Step s : steps(rest)) {
                        if (s.leaf.equals(leaf)) {
                            rests.add(s.rest);
                        }
                    }
                }
                if (seen.add(rests)) {
                    open.add(rests);
                }
            }
        }
        return true;
    }

    // ---- runs of calls of all kinds

    private static final class Run {
        private final int seed;
        private final Random random;
        private final RowModels x = new RowModels();
        private final int spread;
        private final List<Node> parts = new ArrayList<>();
        private final List<Node> models = new ArrayList<>();
        private final List<Integer> sizes = new ArrayList<>();
        private final List<Integer> read = new ArrayList<>();
        private final List<Set<Node>> rests = new ArrayList<>();
        private int names = 0;

        Run(int seed) {
            this.seed = seed;
            this.random = new Random(seed);
            this.spread = 1 + random.nextInt(6);
        }

        void go(int calls) {
            int leaning = random.nextInt(3);
            for (int i = 0; i < calls; i++) {
                one(leaning, i);
            }
        }

        private int someName() {
            int kind = random.nextInt(40);
            if (kind == 0) {
                return random.nextInt(2) == 0 ? 0 : 1001;
            }
            return kind == 1 ? 1000 : 1 + random.nextInt(spread);
        }

        private int someModel() {
            return random.nextInt(models.size() + 2) - (random.nextInt(10) == 0 ? 1 : 0);
        }

        private void one(int leaning, int i) {
            int kind = random.nextInt(leaning == 0 ? 16 : leaning == 1 ? 24 : 40);
            boolean deep = names > 40 || parts.stream().mapToInt(p -> p.toString().length()).sum() > 3000;
            if (deep && kind < 6 && random.nextInt(3) != 0) {
                kind = random.nextInt(2) == 0 ? 6 : 3;
            }
            switch (kind) {
                case 0: case 1: case 2: callName(i); break;
                case 3: case 15: callRow(i); break;
                case 4: callChoice(i); break;
                case 5: callOften(i); break;
                case 6: callMake(i); break;
                case 7: if (random.nextInt(12) == 0) callClear(i); else callMake(i); break;
                case 8: callSize(i); break;
                case 9: callDeterministic(i); break;
                case 10: callBegin(i); break;
                case 11: due(at(i, "isWhole()"), bit(x.isWhole()), bit(!rests.isEmpty() && whole())); break;
                case 12: callCan(i); break;
                case 13: callNext(i); break;
                case 14: callBack(i); break;
                default: callRead(i); break;
            }
        }

        private String at(int i, String call) {
            return "seed " + seed + ", call " + i + ": " + call;
        }

        private Set<Node> now() {
            return rests.get(rests.size() - 1);
        }

        private boolean whole() {
            for (Node rest : now()) {
                if (makesNone(rest)) {
                    return true;
                }
            }
            return false;
        }

        private void callName(int i) {
            int n = someName();
            boolean good = n >= 1 && n <= 1000 && parts.size() < 40 && names < 255;
            if (good) {
                parts.add(new Leaf(n, names++));
            }
            due(at(i, "name(" + n + ")"), x.name(n), good ? parts.size() : NONE);
        }

        private Node takePart() {
            return parts.remove(parts.size() - 1);
        }

        private void callRow(int i) {
            boolean good = parts.size() >= 2;
            if (good) {
                Node b = takePart();
                parts.add(new Row(takePart(), b));
            }
            due(at(i, "row()"), x.row(), good ? parts.size() : NONE);
        }

        private void callChoice(int i) {
            boolean good = parts.size() >= 2;
            if (good) {
                Node b = takePart();
                parts.add(new Choice(takePart(), b));
            }
            due(at(i, "choice()"), x.choice(), good ? parts.size() : NONE);
        }

        private void callOften(int i) {
            int how = random.nextInt(10) == 0 ? random.nextInt(7) - 1 : 1 + random.nextInt(3);
            boolean good = !parts.isEmpty() && how >= 1 && how <= 3;
            if (good) {
                Node a = takePart();
                parts.add(how == 1 ? new MayBe(a) : how == 2 ? new SoOften(a) : new SomeTimes(a));
            }
            due(at(i, "often(" + how + ")"), bit(x.often(how)), bit(good));
        }

        private void callClear(int i) {
            due(at(i, "clear()"), x.clear(), parts.size());
            parts.clear();
            names = 0;
        }

        private void callMake(int i) {
            boolean good = parts.size() == 1 && models.size() < 50;
            if (good) {
                models.add(takePart());
                sizes.add(names);
                names = 0;
            }
            due(at(i, "make()"), x.make(), good ? models.size() - 1 : NONE);
        }

        private boolean isModel(int m) {
            return m >= 0 && m < models.size();
        }

        private void callSize(int i) {
            int m = someModel();
            due(at(i, "size(" + m + ")"), x.size(m), isModel(m) ? sizes.get(m) : NONE);
        }

        private void callDeterministic(int i) {
            int m = someModel();
            boolean want = isModel(m) && deterministic(models.get(m));
            due(at(i, "isDeterministic(" + m + ")"), bit(x.isDeterministic(m)), bit(want));
        }

        private void callBegin(int i) {
            int m = someModel();
            if (isModel(m)) {
                read.clear();
                rests.clear();
                rests.add(Set.of(models.get(m)));
            }
            due(at(i, "begin(" + m + ")"), bit(x.begin(m)), bit(isModel(m)));
        }

        private void callRead(int i) {
            int n = someName();
            if (!rests.isEmpty() && random.nextInt(4) != 0 && !names(now()).isEmpty()) {
                List<Integer> could = new ArrayList<>(names(now()));
                n = could.get(random.nextInt(could.size()));
            }
            boolean good = !rests.isEmpty() && n >= 1 && n <= 1000 && read.size() < 1000;
            if (good) {
                rests.add(behind(now(), n));
                read.add(n);
            }
            due(at(i, "read(" + n + ")"), x.read(n), good ? read.size() : NONE);
        }

        private void callCan(int i) {
            int n = someName();
            due(at(i, "can(" + n + ")"), bit(x.can(n)), bit(!rests.isEmpty() && names(now()).contains(n)));
        }

        private void callNext(int i) {
            int k = random.nextInt(spread + 2) - (random.nextInt(10) == 0 ? 1 : 0);
            List<Integer> could = rests.isEmpty() ? new ArrayList<>() : new ArrayList<>(names(now()));
            due(at(i, "next(" + k + ")"), x.next(k), k >= 0 && k < could.size() ? could.get(k) : NONE);
        }

        private void callBack(int i) {
            int want = NONE;
            if (!read.isEmpty()) {
                want = read.remove(read.size() - 1);
                rests.remove(rests.size() - 1);
            }
            due(at(i, "back()"), x.back(), want);
        }
    }

    // ---- rows written out one by one

    private static final int LONGEST = 7;

    /** All rows of occurrences up to a length, each occurrence a letter. */
    private static Set<String> rows(Node node) {
        Set<String> all = new HashSet<>();
        if (node instanceof Leaf l) {
            all.add(String.valueOf((char) ('a' + l.occurrence)));
        } else if (node instanceof Row r) {
            all.addAll(joined(rows(r.a), rows(r.b)));
        } else if (node instanceof Choice c) {
            all.addAll(rows(c.a));
            all.addAll(rows(c.b));
        } else if (node instanceof MayBe m) {
            all.addAll(rows(m.a));
            all.add("");
        } else if (node instanceof SoOften o) {
            all.addAll(repeated(rows(o.a)));
            all.add("");
        } else if (node instanceof SomeTimes t) {
            all.addAll(repeated(rows(t.a)));
        }
        return all;
    }

    private static Set<String> joined(Set<String> a, Set<String> b) {
        Set<String> all = new HashSet<>();
        for (String s : a) {
            for (String t : b) {
                if (s.length() + t.length() <= LONGEST) {
                    all.add(s + t);
                }
            }
        }
        return all;
    }

    private static Set<String> repeated(Set<String> once) {
        Set<String> all = new HashSet<>(once);
        Set<String> last = once;
        for (int times = 2; times <= LONGEST; times++) {
            last = joined(last, once);
            all.addAll(last);
        }
        return all;
    }

    private static Node build(RowModels x, Random random, int from, int count, int[] names) {
        Node node;
        if (count == 1) {
            names[from] = 1 + random.nextInt(2);
            x.name(names[from]);
            node = new Leaf(names[from], from);
        } else {
            int left = 1 + random.nextInt(count - 1);
            Node a = build(x, random, from, left, names);
            Node b = build(x, random, from + left, count - left, names);
            boolean row = random.nextBoolean();
            due("join", (row ? x.row() : x.choice()) != NONE ? 1 : 0, 1);
            node = row ? new Row(a, b) : new Choice(a, b);
        }
        for (int i = random.nextInt(3); i > 0; i--) {
            int how = random.nextInt(6);
            if (how >= 1 && how <= 3) {
                due("often", bit(x.often(how)), 1);
                node = how == 1 ? new MayBe(node) : how == 2 ? new SoOften(node) : new SomeTimes(node);
            }
        }
        return node;
    }

    private static void smallModel(Random random) {
        RowModels x = new RowModels();
        int count = 1 + random.nextInt(3);
        int[] names = new int[count];
        Node node = build(x, random, 0, count, names);
        due("make() of " + node, x.make(), 0);
        due("size of " + node, x.size(0), count);
        Set<String> rows = rows(node);
        Set<String> begins = new HashSet<>();
        for (String row : rows) {
            for (int n = 0; n <= row.length(); n++) {
                begins.add(row.substring(0, n));
            }
        }
        due("isDeterministic of " + node, bit(x.isDeterministic(0)), bit(!forks(begins, names)));
        x.begin(0);
        readOut(x, node, shown(rows, names), shown(begins, names), "");
    }

    private static boolean forks(Set<String> begins, int[] names) {
        for (String row : begins) {
            for (int a = 0; a < names.length; a++) {
                for (int b = 0; b < a; b++) {
                    if (names[a] == names[b] && begins.contains(row + (char) ('a' + a))
                        && begins.contains(row + (char) ('a' + b))) {
                        return true;
                    }
                }
            }
        }
        return false;
    }

    private static Set<String> shown(Set<String> rows, int[] names) {
        Set<String> all = new HashSet<>();
        for (String row : rows) {
            StringBuilder text = new StringBuilder();
            for (char c : row.toCharArray()) {
                text.append(names[c - 'a']);
            }
            all.add(text.toString());
        }
        return all;
    }

    // Rows of up to four names: what they begin ends within LONGEST for three occurrences.
    private static void readOut(RowModels x, Node node, Set<String> rows, Set<String> begins, String row) {
        String what = node + " behind '" + row + "': ";
        due(what + "isWhole()", bit(x.isWhole()), bit(rows.contains(row)));
        due(what + "can(1)", bit(x.can(1)), bit(begins.contains(row + "1")));
        due(what + "can(2)", bit(x.can(2)), bit(begins.contains(row + "2")));
        if (row.length() >= 4) {
            return;
        }
        for (int n = 1; n <= 2; n++) {
            due(what + "read(" + n + ")", x.read(n), row.length() + 1);
            readOut(x, node, rows, begins, row + n);
            due(what + "back()", x.back(), n);
        }
    }

    // ---- no call throws, whatever its argument, in whatever state, however late

    private static void callsWithoutEnd(Random random) {
        RowModels x = new RowModels();
        for (int i = 0; i < 20000; i++) {
            int kind = random.nextInt(4);
            int a = kind == 0 ? random.nextInt() : kind == 1 ? random.nextInt(60) : 1 + random.nextInt(4);
            int call = random.nextInt(18);
            try {
                wildCall(x, call, a);
            } catch (RuntimeException | StackOverflowError thrown) {
                wrong++;
                System.out.println("call of kind " + call + " with " + a + " threw " + thrown);
                return;
            }
            checks++;
        }
    }

    private static void wildCall(RowModels x, int call, int a) {
        switch (call) {
            case 0: case 1: case 2: x.name(a); break;
            case 3: x.row(); break;
            case 4: x.choice(); break;
            case 5: x.often(a); break;
            case 6: if (a % 64 == 0) x.clear(); break;
            case 7: if (a % 16 == 0) x.make(); break;
            case 8: x.size(a); break;
            case 9: x.isDeterministic(a); break;
            case 10: if (a % 32 == 0) x.begin(a / 32); break;
            case 11: x.isWhole(); break;
            case 12: x.can(a); break;
            case 13: x.next(a); break;
            case 14: x.back(); break;
            default: x.read(a); break;
        }
    }
}
