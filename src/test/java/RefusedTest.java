import java.util.ArrayList;
import java.util.List;

/**
 * "A call that is refused changes nothing": every call with every argument at an edge, in every kind of
 * state. Whether it is refused is told by plain counts kept here; when it is, or when it only asks, an
 * object that got the call answers all that follows as one that did not get it.
 */
public final class RefusedTest {
    private static final int PROMISED_CALLS = 512;
    private static final String[] CALLS = {
        "name", "row", "choice", "often", "clear", "make", "size", "isDeterministic", "begin", "read",
        "isWhole", "can", "next", "back"
    };
    private static final int NAME = 0, ROW = 1, CHOICE = 2, OFTEN = 3, CLEAR = 4, MAKE = 5, SIZE = 6,
        DETERMINISTIC = 7, BEGIN = 8, READ = 9, WHOLE = 10, CAN = 11, NEXT = 12, BACK = 13;
    private static final int[] NO_ARGUMENT = {0};
    private static final int[] EDGES = {
        Integer.MIN_VALUE, Integer.MIN_VALUE + 1, -1001, -50, -2, -1, 0, 1, 2, 3, 4, 5, 39, 40, 41, 49, 50,
        51, 254, 255, 256, 999, 1000, 1001, 1002, 1025, 65537, Integer.MAX_VALUE - 1, Integer.MAX_VALUE
    };
    private static int wrong = 0;
    private static long checks = 0;
    private static int refusals = 0;

    public static void main(String[] args) {
        List<Script> states = states();
        List<Script> followings = followings();
        for (Script state : states) {
            for (int call = 0; call < CALLS.length; call++) {
                for (int a : takesArgument(call) ? EDGES : NO_ARGUMENT) {
                    tryCall(state, call, a, followings);
                }
            }
            tryManyRefused(state, followings);
        }
        if (refusals < 1000) {
            wrong++;
            System.out.println("only " + refusals + " calls were refused");
        }
        System.out.println(wrong == 0 ? "all " + checks + " answers are as due" : wrong + " answers are not as due");
        if (wrong != 0) {
            System.exit(1);
        }
    }

    private static boolean takesArgument(int call) {
        return call == NAME || call == OFTEN || call == SIZE || call == DETERMINISTIC || call == BEGIN
            || call == READ || call == CAN || call == NEXT;
    }

    private static boolean onlyAsks(int call) {
        return call == SIZE || call == DETERMINISTIC || call == WHOLE || call == CAN || call == NEXT;
    }

    private static int call(RowModels x, int call, int a) {
        switch (call) {
            case NAME: return x.name(a);
            case ROW: return x.row();
            case CHOICE: return x.choice();
            case OFTEN: return x.often(a) ? 1 : 0;
            case CLEAR: return x.clear();
            case MAKE: return x.make();
            case SIZE: return x.size(a);
            case DETERMINISTIC: return x.isDeterministic(a) ? 1 : 0;
            case BEGIN: return x.begin(a) ? 1 : 0;
            case READ: return x.read(a);
            case WHOLE: return x.isWhole() ? 1 : 0;
            case CAN: return x.can(a) ? 1 : 0;
            case NEXT: return x.next(a);
            default: return x.back();
        }
    }

    private static void due(String what, int got, int want) {
        checks++;
        if (got != want) {
            wrong++;
            if (wrong <= 50) {
                System.out.println(what + " answered " + got + ", due is " + want);
            }
        }
    }

    /** Calls behind one another, with the counts that say what is refused behind them. */
    private static final class Script {
        private final String title;
        private final List<int[]> calls = new ArrayList<>();
        private int parts = 0;
        private int names = 0;
        private int models = 0;
        private boolean begun = false;
        private int read = 0;

        Script(String title) {
            this.title = title;
        }

        boolean refuses(int call, int a) {
            switch (call) {
                case NAME: return a < 1 || a > 1000 || parts >= 40 || names >= 255;
                case ROW: case CHOICE: return parts < 2;
                case OFTEN: return parts == 0 || a < 1 || a > 3;
                case MAKE: return parts != 1 || models >= 50;
                case SIZE: case DETERMINISTIC: case BEGIN: return a < 0 || a >= models;
                case READ: return !begun || a < 1 || a > 1000 || read >= 1000;
                case BACK: return read == 0;
                default: return false;
            }
        }

        /** What the counts alone say that a call answers; MIN_VALUE when they do not say it. */
        int answer(int call, int a) {
            boolean refused = refuses(call, a);
            switch (call) {
                case NAME: return refused ? -1 : parts + 1;
                case ROW: case CHOICE: return refused ? -1 : parts - 1;
                case OFTEN: case BEGIN: return refused ? 0 : 1;
                case CLEAR: return parts;
                case MAKE: return refused ? -1 : models;
                case SIZE: return refused ? -1 : Integer.MIN_VALUE;
                case DETERMINISTIC: return refused ? 0 : Integer.MIN_VALUE;
                case READ: return refused ? -1 : read + 1;
                case BACK: return refused ? -1 : Integer.MIN_VALUE;
                case WHOLE: return begun ? Integer.MIN_VALUE : 0;
                case CAN: return begun && a >= 1 && a <= 1000 ? Integer.MIN_VALUE : 0;
                default: return begun && a >= 0 && a < 255 ? Integer.MIN_VALUE : -1;
            }
        }

        Script add(int call, int a) {
            if (!refuses(call, a)) {
                count(call);
            }
            calls.add(new int[] {call, a});
            return this;
        }

        Script add(int call) {
            return add(call, 0);
        }

        private void count(int call) {
            switch (call) {
                case NAME: parts++; names++; break;
                case ROW: case CHOICE: parts--; break;
                case CLEAR: parts = 0; names = 0; break;
                case MAKE: parts = 0; names = 0; models++; break;
                case BEGIN: begun = true; read = 0; break;
                case READ: read++; break;
                case BACK: read--; break;
                default: break;
            }
        }

        Script names(int... ns) {
            for (int n : ns) {
                add(NAME, n);
            }
            return this;
        }

        Script reads(int... ns) {
            for (int n : ns) {
                add(READ, n);
            }
            return this;
        }

        /** A model of three names, of which the second may be: (1, 2?, 3)+ . */
        Script usualModel() {
            return names(1, 2).add(OFTEN, 1).names(3).add(ROW).add(ROW).add(OFTEN, 3).add(MAKE);
        }

        /** A model in which the same name can come in two ways: (1 | 2)*, 1 . */
        Script forkedModel() {
            return names(1, 2).add(CHOICE).add(OFTEN, 2).names(1).add(ROW).add(MAKE);
        }

        void runOn(RowModels x) {
            for (int[] c : calls) {
                call(x, c[0], c[1]);
            }
        }
    }

    private static List<Script> states() {
        List<Script> all = new ArrayList<>();
        all.add(new Script("new"));
        all.add(new Script("one part").names(4));
        all.add(new Script("one part, so often").names(4).add(OFTEN, 2));
        all.add(new Script("two parts").names(4, 5));
        all.add(new Script("two parts that may be none").names(4).add(OFTEN, 1).names(5).add(OFTEN, 1));
        all.add(new Script("cleared").names(4, 5).add(OFTEN, 2).add(CLEAR));
        all.add(new Script("made").usualModel());
        all.add(new Script("made, with a draft").usualModel().names(1, 1));
        all.add(new Script("begun").usualModel().add(BEGIN, 0));
        all.add(new Script("begun, with a draft").usualModel().add(BEGIN, 0).names(3).add(OFTEN, 3));
        all.add(new Script("read").usualModel().add(BEGIN, 0).reads(1, 2, 3));
        all.add(new Script("read in part").forkedModel().usualModel().add(BEGIN, 1).reads(1));
        all.add(new Script("read what can not come").usualModel().add(BEGIN, 0).reads(1, 1000, 2));
        all.add(new Script("read and taken back").usualModel().add(BEGIN, 0).reads(1, 2).add(BACK).add(BACK));
        all.add(new Script("read in two ways").usualModel().forkedModel().add(BEGIN, 1).reads(1, 1));
        all.add(new Script("read, with a draft of two").forkedModel().add(BEGIN, 0).reads(2, 1).names(1, 2));
        all.add(fortyParts());
        all.add(fullOfNames(1));
        all.add(fullOfNames(39));
        all.add(fullOfNames(40));
        all.add(fiftyModels(0));
        all.add(fiftyModels(1));
        all.add(fiftyModels(2));
        return all;
    }

    private static Script fortyParts() {
        Script s = new Script("40 parts").usualModel().add(BEGIN, 0).reads(1);
        for (int i = 1; i <= 40; i++) {
            s.names(i);
        }
        return s;
    }

    private static Script fullOfNames(int parts) {
        Script s = new Script("255 names, " + parts + " parts");
        if (parts > 1) {
            s.forkedModel().add(BEGIN, 0).reads(1);
        }
        for (int i = 1; i <= 255; i++) {
            if (i > parts && parts > 1) {
                s.add(ROW);
            }
            s.names(i);
            if (i > 1 && parts == 1) {
                s.add(CHOICE);
            }
        }
        return s;
    }

    private static Script fiftyModels(int parts) {
        Script s = new Script("50 models, " + parts + " parts");
        for (int m = 0; m < 50; m++) {
            s.names(m + 1).add(OFTEN, 3).add(MAKE);
        }
        s.add(BEGIN, 49).reads(50, 50);
        for (int i = 0; i < parts; i++) {
            s.names(7);
        }
        return s;
    }

    private static List<Script> followings() {
        List<Script> all = new ArrayList<>();
        all.add(askAll(new Script("what was read")));
        all.add(backAndOn());
        all.add(new Script("what the draft has").add(CLEAR).add(CLEAR).names(1).add(MAKE));
        all.add(joinAll(new Script("joined to a row"), ROW));
        all.add(joinAll(new Script("joined to a choice"), CHOICE));
        all.add(joinAll(new Script("joined to a row, with one name more").add(OFTEN, 2).names(6), ROW));
        all.add(joinAll(new Script("joined to a choice, with one name more").add(OFTEN, 3).names(6), CHOICE));
        all.add(fillUp());
        all.add(makeMany());
        all.add(beginAll());
        return all;
    }

    private static Script askAll(Script s) {
        s.add(WHOLE);
        for (int n : new int[] {1, 2, 3, 4, 5, 7, 50, 1000}) {
            s.add(CAN, n);
        }
        for (int k = 0; k <= 4; k++) {
            s.add(NEXT, k);
        }
        return s;
    }

    private static Script backAndOn() {
        Script s = new Script("back and on");
        for (int i = 0; i < 4; i++) {
            s.add(BACK).add(WHOLE).add(NEXT, 0).add(NEXT, 1);
        }
        for (int n : new int[] {1, 2, 3, 1, 1}) {
            s.reads(n).add(WHOLE).add(NEXT, 0).add(NEXT, 1);
        }
        return s.add(BACK).add(BACK);
    }

    private static Script joinAll(Script s, int join) {
        for (int i = 0; i < 41; i++) {
            s.add(join);
        }
        s.add(MAKE).add(SIZE, 0).add(SIZE, 1).add(SIZE, 2).add(DETERMINISTIC, 0).add(DETERMINISTIC, 1);
        for (int m = 2; m >= 0; m--) {
            askAll(s.add(BEGIN, m));
            for (int n : new int[] {1, 4, 5, 6}) {
                askAll(s.reads(n));
            }
        }
        return s;
    }

    private static Script fillUp() {
        Script s = new Script("filled up");
        for (int i = 1; i <= 42; i++) {
            s.names(i);
        }
        return s.add(ROW).names(43).names(44).add(CLEAR);
    }

    private static Script makeMany() {
        Script s = new Script("made many").add(MAKE);
        for (int i = 0; i < 52; i++) {
            s.names(8).add(MAKE);
        }
        return s.add(SIZE, 0).add(SIZE, 49).add(SIZE, 50).add(CLEAR);
    }

    private static Script beginAll() {
        Script s = new Script("begun all");
        for (int m : new int[] {0, 1, 2, 48, 49, 50}) {
            s.add(SIZE, m).add(DETERMINISTIC, m).add(BEGIN, m).add(WHOLE).add(NEXT, 0).reads(1).add(WHOLE).add(NEXT, 0);
        }
        return s;
    }

    private static void tryCall(Script state, int call, int a, List<Script> followings) {
        String what = state.title + ": " + CALLS[call] + (takesArgument(call) ? "(" + a + ")" : "()");
        RowModels x = new RowModels();
        state.runOn(x);
        int want = state.answer(call, a);
        if (want != Integer.MIN_VALUE) {
            due(what, call(x, call, a), want);
        }
        if (state.refuses(call, a) || onlyAsks(call)) {
            refusals += state.refuses(call, a) ? 1 : 0;
            for (Script following : followings) {
                holdAgainstTwin(what, state, List.of(new int[] {call, a}), following);
            }
        }
    }

    /** All that is refused in a state, behind one another, each ten times as far as the calls reach. */
    private static void tryManyRefused(Script state, List<Script> followings) {
        List<int[]> refused = new ArrayList<>();
        int room = Math.max(0, (PROMISED_CALLS - state.calls.size()) / 2);
        for (int times = 0; times < 10; times++) {
            for (int call = 0; call < CALLS.length; call++) {
                for (int a : takesArgument(call) ? EDGES : NO_ARGUMENT) {
                    if (state.refuses(call, a) && !onlyAsks(call) && refused.size() < room) {
                        refused.add(new int[] {call, a});
                    }
                }
            }
        }
        for (Script following : followings) {
            holdAgainstTwin(state.title + ": " + refused.size() + " refused calls", state, refused, following);
        }
    }

    private static void holdAgainstTwin(String what, Script state, List<int[]> refused, Script following) {
        RowModels x = new RowModels();
        RowModels twin = new RowModels();
        state.runOn(x);
        state.runOn(twin);
        for (int[] c : refused) {
            call(x, c[0], c[1]);
        }
        int made = state.calls.size() + refused.size();
        for (int i = 0; i < following.calls.size() && made < PROMISED_CALLS; i++) {
            int[] c = following.calls.get(i);
            due(what + ", then " + following.title + ", call " + i + ", " + CALLS[c[0]] + "(" + c[1] + ")",
                call(x, c[0], c[1]), call(twin, c[0], c[1]));
            made++;
        }
    }
}
