/**
 * Every sentence of the document that names an edge, in a test of its own: the last value that is
 * taken and the first that is refused on either side, the ends of int, empty and full, first and last.
 *
 * Each call states the answer that is due. An object is promised nothing behind its 512th call, so a
 * test that goes further is itself wrong, but for the one limit that no such run can reach.
 */
public final class EdgesTest {
    private static final int NONE = -1;
    private static final int MIN = Integer.MIN_VALUE;
    private static final int MAX = Integer.MAX_VALUE;
    private static final int PROMISED_CALLS = 512;

    // Beside the ends of int and of the range: numbers whose low 8, 10, 16 or 24 bits alone, or whose
    // absolute value, would be a name.
    private static final int[] NO_NAMES = {
        MIN, MIN + 1, MIN + 1000, -65535, -1001, -1000, -999, -2, -1, 0, 1001, 1002, 1024, 1025, 1257,
        65536, 65537, 16777217, 1 << 30, MAX - 1, MAX
    };
    private static final int[] NO_HOWS = {
        MIN, MIN + 1, MIN + 2, MIN + 3, -3, -2, -1, 0, 4, 5, 6, 7, 9, 257, 258, 65537, 65538, MAX - 1, MAX
    };
    // None of these is ever a model's number, however many there are.
    private static final int[] NO_MODELS = {
        MIN, MIN + 1, MIN + 49, -50, -2, -1, 50, 51, 64, 256, 257, 65536, 65537, MAX - 1, MAX
    };
    private static final int[] NO_PLACES = {
        MIN, MIN + 1, -256, -255, -2, -1, 255, 256, 257, 1000, 65536, 65537, MAX - 1, MAX
    };

    private static int wrong = 0;
    private static int checks = 0;

    public static void main(String[] args) {
        terms();
        newObject();
        name();
        joins();
        often();
        clear();
        make();
        modelsByNumber();
        isDeterministic();
        begin();
        read();
        isWhole();
        can();
        next();
        back();
        System.out.println(wrong == 0 ? "all " + checks + " answers are as due" : wrong + " answers are not as due");
        if (wrong != 0) {
            System.exit(1);
        }
    }

    private static void due(String what, int got, int want) {
        checks++;
        if (got != want) {
            wrong++;
            System.out.println(what + " answered " + got + ", due is " + want);
        }
    }

    /** An object whose calls are counted, each with the answer that is due. */
    private static final class Calls {
        private final RowModels rows = new RowModels();
        private final String sentence;
        private final int most;
        private int made = 0;

        Calls(String sentence) {
            this(sentence, PROMISED_CALLS);
        }

        Calls(String sentence, int most) {
            this.sentence = sentence;
            this.most = most;
        }

        private String at(String call) {
            made++;
            if (made == most + 1) {
                wrong++;
                System.out.println("[" + sentence + "] the test makes more than " + most + " calls");
            }
            return "[" + sentence + "] call " + made + ", " + call;
        }

        private void answer(String call, int got, int want) {
            due(at(call), got, want);
        }

        private void answer(String call, boolean got, boolean want) {
            due(at(call), got ? 1 : 0, want ? 1 : 0);
        }

        Calls name(int n, int want) {
            answer("name(" + n + ")", rows.name(n), want);
            return this;
        }

        Calls row(int want) {
            answer("row()", rows.row(), want);
            return this;
        }

        Calls choice(int want) {
            answer("choice()", rows.choice(), want);
            return this;
        }

        Calls often(int how, boolean want) {
            answer("often(" + how + ")", rows.often(how), want);
            return this;
        }

        Calls clear(int want) {
            answer("clear()", rows.clear(), want);
            return this;
        }

        Calls make(int want) {
            answer("make()", rows.make(), want);
            return this;
        }

        Calls size(int m, int want) {
            answer("size(" + m + ")", rows.size(m), want);
            return this;
        }

        Calls deterministic(int m, boolean want) {
            answer("isDeterministic(" + m + ")", rows.isDeterministic(m), want);
            return this;
        }

        Calls begin(int m, boolean want) {
            answer("begin(" + m + ")", rows.begin(m), want);
            return this;
        }

        Calls read(int n, int want) {
            answer("read(" + n + ")", rows.read(n), want);
            return this;
        }

        Calls whole(boolean want) {
            answer("isWhole()", rows.isWhole(), want);
            return this;
        }

        Calls can(int n, boolean want) {
            answer("can(" + n + ")", rows.can(n), want);
            return this;
        }

        Calls next(int k, int want) {
            answer("next(" + k + ")", rows.next(k), want);
            return this;
        }

        Calls back(int want) {
            answer("back()", rows.back(), want);
            return this;
        }

        /** The names that can come are just these. */
        Calls comes(int... names) {
            for (int k = 0; k < names.length; k++) {
                next(k, names[k]);
                can(names[k], true);
            }
            return next(names.length, NONE).next(-1, NONE);
        }

        /** A draft of names that becomes one part of many names: 2 * names - 1 calls. */
        Calls oneRow(int names) {
            for (int i = 1; i <= names; i++) {
                name(i, i == 1 ? 1 : 2);
                if (i > 1) {
                    row(1);
                }
            }
            return this;
        }

        /** Names that stay parts as long as there is room for them, then rows: 2 * names - parts calls. */
        Calls manyParts(int names, int parts) {
            for (int i = 1; i <= names; i++) {
                if (i > parts) {
                    row(parts - 1);
                }
                name(i, Math.min(i, parts));
            }
            return this;
        }

        /** One name alone, made and begun. */
        Calls begunWith(int n) {
            return name(n, 1).make(0).begin(0, true);
        }
    }

    // ---- Terms

    private static void terms() {
        namesAreOneToThousand();
        modelsAreNumberedAsTheyWereMade();
        aRowOfNoName();
        mayBeIsOnceAtMost();
        soOftenIsNoneToo();
        someTimesIsOneAtLeast();
        theDraftHasNoPartAtFirst();
        theLastOnesAreJoined();
        rowIsTheSecondBehindTheFirst();
    }

    private static void namesAreOneToThousand() {
        Calls x = new Calls("Terms: names are 1 .. 1000");
        x.name(0, NONE).name(1, 1).name(2, 2).name(999, 3).name(1000, 4).name(1001, NONE);
        x.choice(3).choice(2).choice(1).make(0).begin(0, true);
        x.comes(1, 2, 999, 1000);
        x.can(0, false).can(3, false).can(998, false).can(1001, false);
        x.read(0, NONE).read(1, 1).read(999, 2).read(1000, 3).read(1001, NONE);
        x.back(1000).back(999).back(1).back(NONE);
    }

    private static void modelsAreNumberedAsTheyWereMade() {
        Calls x = new Calls("Terms: models are numbered from 0 on, as they were made");
        x.name(30, 1).make(0).name(10, 1).make(1).make(NONE).name(20, 1).make(2);
        x.begin(0, true).comes(30).begin(1, true).comes(10).begin(2, true).comes(20).begin(3, false);
    }

    private static void aRowOfNoName() {
        for (int how = 0; how <= 3; how++) {
            boolean none = how == 1 || how == 2;
            Calls x = new Calls("Terms: the row of no name, how " + how);
            x.name(5, 1).often(how, how != 0).make(0).begin(0, true);
            x.whole(none).comes(5).read(5, 1).whole(true).back(5).whole(none);
        }
        Calls y = new Calls("Terms: the row of no name, of a row of two");
        y.name(1, 1).often(1, true).name(2, 2).often(1, true).row(1).make(0).begin(0, true).whole(true).comes(1, 2);
        y.name(1, 1).often(1, true).name(2, 2).row(1).make(1).begin(1, true).whole(false).comes(1, 2);
        y.name(1, 1).name(2, 2).often(1, true).row(1).make(2).begin(2, true).whole(false).comes(1);
        y.name(1, 1).name(2, 2).row(1).make(3).begin(3, true).whole(false).comes(1);
        Calls z = new Calls("Terms: the row of no name, of a choice of two");
        z.name(1, 1).often(2, true).name(2, 2).choice(1).make(0).begin(0, true).whole(true).comes(1, 2);
        z.name(1, 1).name(2, 2).often(2, true).choice(1).make(1).begin(1, true).whole(true).comes(1, 2);
        z.name(1, 1).name(2, 2).choice(1).make(2).begin(2, true).whole(false).comes(1, 2);
    }

    private static void mayBeIsOnceAtMost() {
        Calls x = new Calls("Terms: may be these and the row of no name");
        x.name(4, 1).often(1, true).make(0).begin(0, true).whole(true);
        x.read(4, 1).whole(true).comes().read(4, 2).whole(false).comes();
    }

    private static void soOftenIsNoneToo() {
        Calls x = new Calls("Terms: so often, any number, none too");
        x.name(4, 1).name(6, 2).row(1).often(2, true).make(0).begin(0, true).whole(true);
        for (int i = 0; i < 40; i++) {
            x.comes(4).read(4, 2 * i + 1).whole(false).comes(6).read(6, 2 * i + 2).whole(true);
        }
    }

    private static void someTimesIsOneAtLeast() {
        Calls x = new Calls("Terms: some times, one at least");
        x.name(4, 1).name(6, 2).row(1).often(3, true).make(0).begin(0, true).whole(false);
        for (int i = 0; i < 40; i++) {
            x.comes(4).read(4, 2 * i + 1).whole(false).comes(6).read(6, 2 * i + 2).whole(true);
        }
        Calls y = new Calls("Terms: one at least, of what may be none, is none too");
        y.name(4, 1).often(1, true).often(3, true).make(0).begin(0, true).whole(true).comes(4);
        y.read(4, 1).whole(true).comes(4).read(4, 2).whole(true);
    }

    private static void theDraftHasNoPartAtFirst() {
        new Calls("Terms: the draft has no part at first").clear(0);
        new Calls("Terms: the draft has no part at first").make(NONE).name(3, 1);
    }

    private static void theLastOnesAreJoined() {
        Calls x = new Calls("Terms: the last parts are joined");
        for (int i = 1; i <= 40; i++) {
            x.name(i, i);
        }
        x.choice(39);
        for (int parts = 38; parts >= 1; parts--) {
            x.row(parts);
        }
        x.make(0).begin(0, true);
        for (int i = 1; i <= 38; i++) {
            x.comes(i).read(i, i).whole(false);
        }
        x.comes(39, 40).read(40, 39).whole(true).back(40).read(39, 39).whole(true).comes();
    }

    private static void rowIsTheSecondBehindTheFirst() {
        Calls x = new Calls("Terms: a row is one of the first with one of the second behind it");
        x.name(2, 1).name(1, 2).row(1).make(0).begin(0, true).comes(2).read(2, 1).whole(false);
        x.comes(1).read(1, 2).whole(true).comes().begin(0, true).read(1, 1).comes().whole(false);
    }

    // ---- Promise 1

    private static void newObject() {
        new Calls("1: no parts").clear(0);
        new Calls("1: no parts").row(NONE);
        new Calls("1: no parts").choice(NONE);
        new Calls("1: no parts").often(1, false);
        new Calls("1: no parts").often(2, false);
        new Calls("1: no parts").often(3, false);
        new Calls("1: no parts").make(NONE);
        new Calls("1: no parts").name(1, 1);
        new Calls("1: no models").size(0, NONE);
        new Calls("1: no models").deterministic(0, false);
        new Calls("1: no models").begin(0, false);
        new Calls("1: no models").name(1, 1).make(0);
        new Calls("1: nothing is read").back(NONE);
        new Calls("1: nothing is read").read(1, NONE);
        new Calls("1: nothing is read").whole(false);
        new Calls("1: nothing is read").can(1, false);
        new Calls("1: nothing is read").next(0, NONE);
        Calls x = new Calls("1: another object is new too");
        x.name(1, 1).often(2, true).make(0).begin(0, true).read(1, 1).name(2, 1).name(3, 2);
        new Calls("1: no parts beside another object").clear(0).size(0, NONE).begin(0, false).back(NONE).whole(false);
        x.whole(true).clear(2).size(0, 1).back(1);
        due("[the face: NONE]", RowModels.NONE, -1);
    }

    // ---- Promise 2

    private static void name() {
        nameThatIsNone();
        nameWithFortyParts();
        nameWith255Names();
        nameWithBothFull();
        refusedNamesChangeNoOther();
        namesCountOverJoins();
    }

    private static void nameThatIsNone() {
        for (int n : NO_NAMES) {
            new Calls("2: NONE when it is none").name(n, NONE).clear(0).name(1, 1).name(n, NONE).clear(1);
        }
        Calls x = new Calls("2: refused names take no room");
        for (int i = 0; i < 300; i++) {
            x.name(i % 2 == 0 ? 0 : 1001, NONE);
        }
        for (int i = 1; i <= 40; i++) {
            x.name(i % 2 == 0 ? 1 : 1000, i);
        }
        x.name(1, NONE).clear(40);
    }

    private static void nameWithFortyParts() {
        Calls x = new Calls("2: NONE when there are 40 parts");
        for (int i = 1; i <= 40; i++) {
            x.name(i, i);
        }
        x.name(41, NONE).name(1, NONE).name(1000, NONE).name(0, NONE).name(MAX, NONE);
        x.row(39).name(41, 40).name(42, NONE).choice(39).choice(38).name(42, 39).name(43, 40).name(44, NONE);
        x.clear(40).name(1, 1).clear(1);
        for (int i = 1; i <= 40; i++) {
            x.name(i, i);
        }
        x.name(41, NONE).often(2, true).name(41, NONE).clear(40);
    }

    private static void nameWith255Names() {
        Calls x = new Calls("2: NONE when the draft has 255 names");
        x.oneRow(255).name(256, NONE).make(0).size(0, 255);
        Calls y = new Calls("2: the 255th name is taken, the 256th not, with two parts");
        y.oneRow(254).name(7, 2).name(7, NONE).clear(2).name(7, 1);
        Calls z = new Calls("2: the 256th name is refused though there is room for a part");
        z.manyParts(255, 39).name(1, NONE).name(1000, NONE).name(0, NONE).row(38).name(1, NONE).choice(37);
        z.name(1, NONE).often(3, true).name(1, NONE).make(NONE).name(1, NONE).clear(37).name(1, 1).name(2, 2);
        Calls w = new Calls("2: a refused name is not in the model");
        w.oneRow(253).name(254, 2).name(255, 3).name(256, NONE).choice(2).row(1).make(0);
    }

    private static void nameWithBothFull() {
        Calls x = new Calls("2: NONE when there are 40 parts and 255 names");
        x.manyParts(255, 40).name(1, NONE).row(39).name(1, NONE).clear(39).name(1, 1);
    }

    private static void refusedNamesChangeNoOther() {
        for (int n : new int[] {1, 2, 40, 41, 1000}) {
            Calls x = new Calls("2: the 41st part, refused, changes no part");
            for (int i = 1; i <= 40; i++) {
                x.name(i, i);
            }
            x.name(n, NONE);
            for (int parts = 39; parts >= 1; parts--) {
                x.choice(parts);
            }
            x.make(0).size(0, 40).deterministic(0, true).begin(0, true);
            for (int k = 0; k < 40; k++) {
                x.next(k, k + 1);
            }
            x.next(40, NONE);
        }
        refusedNameWith255(1, 255, 1, true);
        refusedNameWith255(1, 255, 2, true);
        refusedNameWith255(1, 255, 254, true);
        refusedNameWith255(1, 255, 255, true);
        refusedNameWith255(1, 1, 1000, false);
    }

    // Behind 255 names and a refused one only make and one call more are left: whether two of the names
    // are the same tells then whether one of them was changed.
    private static void refusedNameWith255(int first, int last, int refused, boolean deterministic) {
        Calls x = new Calls("2: the 256th name, refused, changes no name");
        x.name(first, 1);
        for (int i = 2; i <= 254; i++) {
            x.name(i, 2).choice(1);
        }
        x.name(last, 2).choice(1).name(refused, NONE).make(0).deterministic(0, deterministic);
    }

    private static void namesCountOverJoins() {
        Calls x = new Calls("2: joining and repeating give no name free, clear and make do");
        x.oneRow(200).make(0);
        for (int i = 1; i <= 40; i++) {
            x.name(i, i);
        }
        x.clear(40);
        for (int i = 1; i <= 30; i++) {
            x.name(i, i);
        }
        x.clear(30).size(0, 200);
    }

    // ---- Promises 3 and 4

    private static void joins() {
        notTwoToJoin();
        justTwoToJoin();
        fortyToJoin();
        refusedJoinsLeaveThePart();
    }

    private static void notTwoToJoin() {
        new Calls("3: NONE when there are not two, none").row(NONE).clear(0);
        new Calls("3: NONE when there are not two, one").name(1, 1).row(NONE).clear(1);
        new Calls("3: NONE when there are not two, cleared").name(1, 1).name(2, 2).clear(2).row(NONE).name(3, 1);
        new Calls("3: NONE when there are not two, made").name(1, 1).make(0).row(NONE).name(2, 1).row(NONE).clear(1);
        new Calls("4: NONE when there are not two, none").choice(NONE).clear(0);
        new Calls("4: NONE when there are not two, one").name(1, 1).choice(NONE).clear(1);
        new Calls("4: NONE when there are not two, cleared").name(1, 1).name(2, 2).clear(2).choice(NONE).name(3, 1);
        new Calls("4: NONE when there are not two, made").name(1, 1).make(0).choice(NONE).name(2, 1).choice(NONE).clear(1);
    }

    private static void justTwoToJoin() {
        Calls x = new Calls("3: two are joined, then there are not two");
        x.name(1, 1).name(2, 2).row(1).row(NONE).choice(NONE).make(0).begin(0, true);
        x.comes(1).read(1, 1).comes(2).read(2, 2).whole(true).comes();
        Calls y = new Calls("4: two are joined, then there are not two");
        y.name(1, 1).name(2, 2).choice(1).choice(NONE).row(NONE).make(0).begin(0, true);
        y.comes(1, 2).read(1, 1).whole(true).comes().back(1).read(2, 1).whole(true).comes();
        Calls z = new Calls("3: three are joined twice");
        z.name(1, 1).name(2, 2).name(3, 3).row(2).row(1).row(NONE).clear(1);
        Calls w = new Calls("4: three are joined twice");
        w.name(1, 1).name(2, 2).name(3, 3).choice(2).choice(1).choice(NONE).clear(1);
    }

    private static void fortyToJoin() {
        Calls x = new Calls("3: forty parts");
        Calls y = new Calls("4: forty parts");
        for (int i = 1; i <= 40; i++) {
            x.name(i, i);
            y.name(41 - i, i);
        }
        for (int parts = 39; parts >= 1; parts--) {
            x.row(parts);
            y.choice(parts);
        }
        x.row(NONE).make(0).size(0, 40).begin(0, true);
        y.choice(NONE).make(0).size(0, 40).begin(0, true);
        for (int i = 1; i <= 40; i++) {
            x.whole(false).next(0, i).next(1, NONE).read(i, i);
            y.next(i - 1, i).read(i, 1).whole(true).next(0, NONE).back(i);
        }
        x.whole(true).next(0, NONE);
        y.next(40, NONE);
    }

    private static void refusedJoinsLeaveThePart() {
        Calls x = new Calls("3, 4: a refused join leaves the one part as it is");
        x.name(9, 1).often(3, true);
        for (int i = 0; i < 50; i++) {
            x.row(NONE).choice(NONE);
        }
        x.make(0).size(0, 1).begin(0, true).whole(false).read(9, 1).whole(true).comes(9);
        x.row(NONE).choice(NONE).clear(0).whole(true);
    }

    // ---- Promise 5

    private static void often() {
        noPartForOften();
        noSuchHow();
        eachHow();
        oftenOfAFullDraft();
        oftenOverOften();
    }

    private static void noPartForOften() {
        for (int how = 1; how <= 3; how++) {
            new Calls("5: false when there is no part, new").often(how, false).clear(0);
            Calls x = new Calls("5: false when there is no part, made");
            x.name(1, 1).make(0).often(how, false).begin(0, true).whole(false).read(1, 1).comes().whole(true);
            Calls y = new Calls("5: false when there is no part, cleared");
            y.name(1, 1).clear(1).often(how, false).name(1, 1).make(0).begin(0, true).whole(false).read(1, 1).comes();
            Calls z = new Calls("5: false when there is no part, asked before the first name");
            z.often(how, false).name(1, 1).make(0).begin(0, true).whole(false).read(1, 1).comes();
        }
        for (int how : NO_HOWS) {
            new Calls("5: false when there is no part and no such how").often(how, false).clear(0);
        }
    }

    private static void noSuchHow() {
        for (int how : NO_HOWS) {
            Calls x = new Calls("5: false when there is no such how");
            x.name(8, 1).often(how, false).make(0).begin(0, true).whole(false).comes(8).read(8, 1).whole(true).comes();
            Calls y = new Calls("5: no such how leaves what was said before");
            y.name(8, 1).often(2, true).often(how, false).make(0).begin(0, true).whole(true).read(8, 1).comes(8);
        }
    }

    private static void eachHow() {
        Calls x = new Calls("5: how 1, 2 and 3 are taken, 0 and 4 are not");
        x.name(1, 1).often(0, false).often(1, true).make(0);
        x.name(2, 1).often(2, true).make(1);
        x.name(3, 1).often(3, true).often(4, false).make(2);
        x.begin(0, true).whole(true).read(1, 1).whole(true).comes();
        x.begin(1, true).whole(true).read(2, 1).whole(true).comes(2);
        x.begin(2, true).whole(false).read(3, 1).whole(true).comes(3);
        Calls y = new Calls("5: the last part alone");
        y.name(1, 1).name(2, 2).often(2, true).row(1).make(0).begin(0, true).whole(false).comes(1);
        y.read(1, 1).whole(true).comes(2).read(2, 2).whole(true).comes(2);
    }

    private static void oftenOfAFullDraft() {
        Calls x = new Calls("5: the fortieth part");
        for (int i = 1; i <= 40; i++) {
            x.name(i, i);
        }
        x.often(2, true);
        for (int parts = 39; parts >= 1; parts--) {
            x.row(parts);
        }
        x.make(0).begin(0, true);
        for (int i = 1; i <= 39; i++) {
            x.whole(false).read(i, i);
        }
        x.whole(true).comes(40).read(40, 40).whole(true).comes(40);
        Calls y = new Calls("5: a part of 255 names");
        y.oneRow(255).often(2, true).make(0).begin(0, true);
    }

    private static void oftenOverOften() {
        boolean[] none = {false, true, true, false};
        boolean[] more = {false, false, true, true};
        for (int a = 1; a <= 3; a++) {
            for (int b = 1; b <= 3; b++) {
                Calls x = new Calls("5: how " + a + ", then " + b);
                x.name(1, 1).often(a, true).often(b, true).make(0).size(0, 1).deterministic(0, true).begin(0, true);
                x.whole(none[a] || none[b]).read(1, 1).whole(true).can(1, more[a] || more[b]).read(1, 2);
                x.whole(more[a] || more[b]);
            }
        }
        Calls y = new Calls("5: as often as an object is used");
        y.name(1, 1);
        for (int i = 0; i < 500; i++) {
            y.often(1 + i % 3, true);
        }
        y.make(0).size(0, 1).begin(0, true).whole(true).read(1, 1).whole(true).comes(1);
    }

    // ---- Promise 6

    private static void clear() {
        new Calls("6: how many parts it had, none").clear(0).clear(0).name(1, 1);
        for (int parts = 1; parts <= 40; parts++) {
            Calls x = new Calls("6: how many parts it had, " + parts);
            for (int i = 1; i <= parts; i++) {
                x.name(i, i);
            }
            x.clear(parts).clear(0).row(NONE).choice(NONE).often(1, false).make(NONE).size(0, NONE).name(5, 1).clear(1);
        }
        Calls y = new Calls("6: parts, not names");
        y.name(1, 1).name(2, 2).name(3, 3).row(2).clear(2).clear(0);
        Calls z = new Calls("6: a draft of 255 names is empty then");
        z.manyParts(255, 40).clear(40).clear(0).name(1, 1).name(2, 2).name(3, 3).row(2).row(1).make(0).size(0, 3);
        Calls w = new Calls("6: clear leaves models and what was read");
        w.name(1, 1).name(2, 2).row(1).make(0).begin(0, true).read(1, 1).name(3, 1).clear(1).clear(0);
        w.size(0, 2).deterministic(0, true).comes(2).read(2, 2).whole(true).back(2).back(1).back(NONE);
        Calls v = new Calls("6: nothing is left of a cleared part");
        v.name(1, 1).often(2, true).name(2, 2).often(1, true).row(1).clear(1);
        v.name(1, 1).name(2, 2).row(1).make(0).size(0, 2).begin(0, true).whole(false).comes(1);
        v.read(1, 1).whole(false).comes(2).read(2, 2).whole(true).comes();
    }

    // ---- Promise 7

    private static void make() {
        notJustOnePart();
        fiftyModels();
        theDraftIsEmptyThen();
        refusedMakeLeavesTheDraft();
    }

    private static void notJustOnePart() {
        new Calls("7: NONE when it has not just one part, none").make(NONE).size(0, NONE);
        new Calls("7: NONE when it has not just one part, cleared").name(1, 1).clear(1).make(NONE).size(0, NONE);
        new Calls("7: NONE when it has not just one part, made").name(1, 1).make(0).make(NONE).size(1, NONE);
        new Calls("7: one part is made").name(1, 1).make(0).size(0, 1);
        for (int parts = 2; parts <= 40; parts++) {
            Calls x = new Calls("7: NONE when it has not just one part, " + parts);
            for (int i = 1; i <= parts; i++) {
                x.name(i, i);
            }
            x.make(NONE).size(0, NONE).begin(0, false).clear(parts);
        }
    }

    private static void fiftyModels() {
        Calls x = new Calls("7: NONE when there are 50 models");
        for (int m = 0; m < 50; m++) {
            x.name(m + 1, 1).make(m);
        }
        x.make(NONE).name(900, 1).make(NONE).make(NONE).size(50, NONE).begin(50, false).deterministic(50, false);
        x.name(901, 2).make(NONE).row(1).make(NONE).often(1, true).make(NONE).clear(1);
        for (int m = 0; m < 50; m++) {
            x.size(m, 1).deterministic(m, true).begin(m, true).next(0, m + 1).next(1, NONE);
        }
        x.begin(0, true).comes(1).begin(49, true).comes(50).read(50, 1).whole(true);
    }

    private static void theDraftIsEmptyThen() {
        Calls x = new Calls("7: the draft is empty then");
        x.name(1, 1).make(0).clear(0).row(NONE).choice(NONE).often(2, false).make(NONE);
        x.name(2, 1).row(NONE).make(1).begin(0, true).comes(1).begin(1, true).comes(2);
        Calls y = new Calls("7: the 255 names are free then");
        y.oneRow(250).make(0);
        for (int i = 1; i <= 10; i++) {
            y.name(i, i);
        }
        Calls z = new Calls("7: nothing of a made part is left in the next one");
        z.name(1, 1).name(2, 2).row(1).often(2, true).make(0).name(3, 1).name(4, 2).row(1).make(1);
        z.begin(1, true).whole(false).comes(3).read(3, 1).whole(false).comes(4).read(4, 2).whole(true).comes();
        z.begin(0, true).whole(true).comes(1).read(1, 1).comes(2).read(2, 2).whole(true).comes(1);
    }

    private static void refusedMakeLeavesTheDraft() {
        Calls x = new Calls("7: a refused make leaves the draft and the next number");
        x.make(NONE).name(1, 1).name(2, 2).make(NONE).make(NONE).row(1).name(3, 2).make(NONE).choice(1).make(0);
        x.size(0, 3).begin(0, true).comes(1, 3).read(1, 1).comes(2).name(4, 1).make(1).size(1, 1).size(2, NONE);
    }

    // ---- Promises 8, 9 and 10: models by their number

    private static void modelsByNumber() {
        for (int m : NO_MODELS) {
            new Calls("8: NONE when there is none such, new").size(m, NONE);
            new Calls("9: false when there is none such, new").deterministic(m, false);
            new Calls("10: false when there is none such, new").begin(m, false).read(1, NONE).whole(false);
            Calls x = new Calls("8, 9, 10: none such beside one");
            x.name(3, 1).often(2, true).make(0).size(m, NONE).deterministic(m, false).begin(m, false);
            x.whole(false).read(3, NONE).can(3, false).next(0, NONE).back(NONE);
        }
        noModelBehindTheLast();
        noModelBehindTheFiftieth();
        aDraftIsNoModel();
        sizes();
    }

    private static void noModelBehindTheLast() {
        Calls x = new Calls("8, 9, 10: the last that there is and the first that there is not");
        for (int m = 0; m < 49; m++) {
            x.size(m, NONE).deterministic(m, false).begin(m, false);
            x.name(m + 1, 1).make(m);
            x.size(m, 1).deterministic(m, true).begin(m, true).next(0, m + 1);
        }
        x.size(-1, NONE).size(0, 1).deterministic(-1, false).begin(-1, false).next(0, 49);
    }

    private static void noModelBehindTheFiftieth() {
        Calls x = new Calls("8, 9, 10: the fiftieth model and none behind it");
        for (int m = 0; m < 50; m++) {
            x.name(1000 - m, 1).make(m);
        }
        x.begin(49, true).comes(951);
        for (int m : NO_MODELS) {
            x.size(m, NONE).deterministic(m, false).begin(m, false).next(0, 951);
        }
        x.size(0, 1).size(49, 1).deterministic(0, true).deterministic(49, true).begin(0, true).comes(1000);
    }

    private static void aDraftIsNoModel() {
        Calls x = new Calls("8, 9, 10: a draft is no model");
        x.name(1, 1).size(0, NONE).deterministic(0, false).begin(0, false).clear(1);
        x.size(0, NONE).deterministic(0, false).begin(0, false);
    }

    private static void sizes() {
        new Calls("8: the smallest").name(1, 1).make(0).size(0, 1);
        new Calls("8: the largest").oneRow(255).make(0).size(0, 255);
        new Calls("8: the largest but one").oneRow(254).make(0).size(0, 254);
        Calls x = new Calls("8: occurrences, not names, and not how often");
        x.name(1, 1).name(1, 2).name(1, 3).row(2).choice(1).often(2, true).often(3, true).make(0).size(0, 3);
        x.name(1, 1).often(3, true).make(1).size(1, 1).size(0, 3);
    }

    // ---- Promise 9

    private static void isDeterministic() {
        Calls x = new Calls("9: one occurrence has no other beside it");
        x.name(1, 1).make(0).deterministic(0, true);
        for (int how = 1; how <= 3; how++) {
            x.name(1, 1).often(how, true).make(how).deterministic(how, true);
        }
        Calls y = new Calls("9: two of a name: choice, row, and over what may be none");
        y.name(1, 1).name(1, 2).choice(1).make(0).deterministic(0, false);
        y.name(1, 1).name(1, 2).row(1).make(1).deterministic(1, true);
        y.name(1, 1).often(1, true).name(1, 2).row(1).make(2).deterministic(2, false);
        y.name(1, 1).name(1, 2).often(1, true).row(1).make(3).deterministic(3, true);
        y.name(1, 1).often(3, true).name(1, 2).row(1).make(4).deterministic(4, false);
        y.name(1, 1).name(1, 2).row(1).often(2, true).make(5).deterministic(5, true);
        y.name(1, 1).name(1, 2).often(1, true).row(1).often(2, true).make(6).deterministic(6, false);
        y.name(1, 1).name(2, 2).choice(1).make(7).deterministic(7, true);
        y.deterministic(0, false).deterministic(1, true).deterministic(8, false);
        twinsFarApart();
        manyOfOneName();
    }

    // The first name comes again as the last one of more and more.
    private static void twinsFarApart() {
        for (int count = 2; count <= 255; count++) {
            boolean twins = count % 2 == 0;
            Calls x = new Calls("9: " + count + " to choose of, " + (twins ? "two the same" : "none the same"));
            x.name(500, 1);
            for (int i = 2; i < count; i++) {
                x.name(i, 2).choice(1);
            }
            x.name(twins ? 500 : 1000, 2).choice(1).make(0).deterministic(0, !twins);
        }
        Calls y = new Calls("9: 255 to choose of, two the same");
        y.name(255, 1);
        for (int i = 2; i <= 255; i++) {
            y.name(i, 2).choice(1);
        }
        y.make(0).deterministic(0, false);
    }

    private static void manyOfOneName() {
        Calls x = new Calls("9: a row of 255 of one name");
        Calls y = new Calls("9: a choice of 255 of one name");
        x.name(1, 1);
        y.name(1, 1);
        for (int i = 2; i <= 255; i++) {
            x.name(1, 2).row(1);
            y.name(1, 2).choice(1);
        }
        x.make(0).deterministic(0, true);
        y.make(0).deterministic(0, false);
    }

    // ---- Promise 10

    private static void begin() {
        Calls x = new Calls("10: no name was read yet");
        x.name(1, 1).name(2, 2).row(1).make(0).name(3, 1).often(2, true).make(1);
        x.begin(0, true).back(NONE).read(1, 1).read(2, 2).whole(true);
        x.begin(0, true).whole(false).comes(1).back(NONE).read(1, 1).comes(2);
        x.begin(1, true).whole(true).comes(3).back(NONE).read(3, 1).back(3).back(NONE);
        Calls y = new Calls("10: a begin that is refused leaves what was read");
        y.name(1, 1).name(2, 2).row(1).make(0).begin(0, true).read(1, 1);
        for (int m : NO_MODELS) {
            y.begin(m, false).next(0, 2);
        }
        y.begin(1, false).comes(2).read(2, 2).whole(true).back(2).back(1).back(NONE);
        Calls z = new Calls("10: a later draft or model is not read for");
        z.name(1, 1).make(0).begin(0, true).name(2, 1).comes(1).make(1).comes(1).begin(1, true).comes(2);
        Calls w = new Calls("10: begin, and all that reads, leaves the draft");
        w.name(1, 1).make(0).name(2, 1).name(3, 2).begin(0, true).begin(1, false).read(1, 1).whole(true).back(1);
        w.comes(1).read(0, NONE).row(1).begin(0, true).make(1).size(1, 2).begin(1, true).comes(2).read(2, 1).comes(3);
    }

    // ---- Promise 11

    private static void read() {
        nothingWasBegunToRead();
        readOfNoName();
        readToTheLastCall();
        readThousand();
        readOfWhatCanNotCome();
    }

    private static void nothingWasBegunToRead() {
        new Calls("11: NONE when nothing was begun, new").read(1, NONE).back(NONE);
        Calls x = new Calls("11: NONE when nothing was begun, with a model");
        x.name(1, 1).make(0).read(1, NONE).read(1000, NONE).read(0, NONE).back(NONE).begin(1, false).read(1, NONE);
        x.begin(0, true).back(NONE).read(1, 1);
        for (int n : NO_NAMES) {
            new Calls("11: NONE when nothing was begun and it is no name").read(n, NONE).back(NONE);
        }
    }

    private static void readOfNoName() {
        for (int n : NO_NAMES) {
            Calls x = new Calls("11: NONE when it is no name");
            x.name(1, 1).often(2, true).make(0).begin(0, true).read(n, NONE).whole(true).back(NONE);
            x.read(1, 1).read(n, NONE).whole(true).comes(1).read(1, 2).back(1).back(1).back(NONE);
        }
        Calls y = new Calls("11: the first and the last name are read, those beside them not");
        y.begunWith(7).read(1, 1).read(0, NONE).read(1000, 2).read(1001, NONE).back(1000).back(1).back(NONE);
    }

    private static void readToTheLastCall() {
        Calls x = new Calls("11: as many as an object is used for");
        x.name(1, 1).often(3, true).make(0).begin(0, true);
        for (int i = 1; i <= 507; i++) {
            x.read(1, i);
        }
        x.whole(true);
    }

    // No run of 512 calls reads 1000 names; the document names the limit, so it is kept all the same.
    private static void readThousand() {
        Calls x = new Calls("11: NONE when 1000 were read", 2100);
        x.name(1, 1).often(2, true).make(0).begin(0, true);
        for (int i = 1; i <= 1000; i++) {
            x.read(1, i);
        }
        x.read(1, NONE).read(1000, NONE).read(0, NONE).whole(true).back(1).read(1, 1000).read(1, NONE);
        for (int i = 1; i <= 1000; i++) {
            x.back(1);
        }
        x.back(NONE).read(1, 1).begin(0, true).read(1, 1);
    }

    private static void readOfWhatCanNotCome() {
        Calls x = new Calls("11: a name comes, whether it can or not");
        x.begunWith(7).read(8, 1).whole(false).comes().read(7, 2).whole(false).comes().back(7).back(8).comes(7);
    }

    // ---- Promise 12

    private static void isWhole() {
        new Calls("12: false when nothing was begun, new").whole(false);
        Calls x = new Calls("12: false when nothing was begun");
        x.name(1, 1).often(2, true).whole(false).make(0).whole(false).begin(1, false).whole(false);
        x.begin(-1, false).whole(false).read(1, NONE).whole(false).begin(0, true).whole(true);
        Calls y = new Calls("12: whole at none, at one, at the last of many");
        y.oneRow(100).make(0).begin(0, true);
        for (int i = 1; i <= 100; i++) {
            y.whole(false).read(i, i);
        }
        y.whole(true).read(100, 101).whole(false).back(100).whole(true).back(100).whole(false);
        manyThatComeAgain();
    }

    // The names to choose of come again behind each other, and the row may end behind each of them: also
    // the last ones of the most that leave calls enough to see it.
    private static void manyThatComeAgain() {
        for (int count : new int[] {1, 2, 63, 64, 65, 127, 128, 129, 191, 192, 193, 194, 251, 252}) {
            for (int how = 2; how <= 3; how++) {
                Calls x = new Calls("12: whole behind each of " + count + " that come again, how " + how);
                x.name(1, 1);
                for (int i = 2; i <= count; i++) {
                    x.name(i, 2).choice(1);
                }
                x.often(how, true).make(0).begin(0, true).read(count, 1).whole(true);
                x.next(count - 1, count).next(count, NONE).can((count + 1) / 2, true);
                if (count < 250) {
                    x.can(count, true).can(1, true).can(count + 1, false).read(1, 2).whole(true).can(count, true);
                    x.back(1).back(count).whole(how == 2).next(count - 1, count).next(count, NONE);
                }
            }
        }
    }

    // ---- Promise 13

    private static void can() {
        for (int n : NO_NAMES) {
            new Calls("13: false when nothing was begun, no name").can(n, false);
            Calls x = new Calls("13: what is no name begins no row");
            x.name(1, 1).name(1000, 2).choice(1).often(2, true).make(0).begin(0, true);
            x.can(n, false).can(1, true).can(1000, true).read(1, 1).can(n, false).can(1, true);
        }
        new Calls("13: false when nothing was begun, new").can(1, false).can(1000, false);
        Calls y = new Calls("13: false when nothing was begun");
        y.name(1, 1).can(1, false).make(0).can(1, false).begin(1, false).can(1, false).begin(0, true).can(1, true);
        Calls z = new Calls("13: no name before, behind or between those that can come");
        z.name(500, 1).name(502, 2).choice(1).make(0).begin(0, true);
        z.can(499, false).can(500, true).can(501, false).can(502, true).can(503, false).can(1, false).can(1000, false);
        Calls w = new Calls("13: nothing behind a whole row, nor behind what begins none");
        w.begunWith(7).can(7, true).read(7, 1).can(7, false).back(7).read(6, 1).can(7, false).can(6, false);
    }

    // ---- Promise 14

    private static void next() {
        for (int k : NO_PLACES) {
            new Calls("14: NONE when there is none such, nothing begun").next(k, NONE);
            Calls x = new Calls("14: NONE when there is none such");
            x.begunWith(7).next(k, NONE).next(0, 7).read(7, 1).next(k, NONE).read(7, 2).next(k, NONE);
        }
        new Calls("14: NONE when nothing was begun, new").next(0, NONE);
        Calls y = new Calls("14: NONE when nothing was begun");
        y.name(1, 1).next(0, NONE).make(0).next(0, NONE).begin(1, false).next(0, NONE).begin(0, true).next(0, 1);
        Calls z = new Calls("14: the first, the last, none before and none behind");
        z.name(1000, 1).name(1, 2).choice(1).name(500, 2).choice(1).make(0).begin(0, true);
        z.next(-1, NONE).next(0, 1).next(1, 500).next(2, 1000).next(3, NONE).next(2, 1000).next(0, 1);
        Calls w = new Calls("14: a name of several occurrences is one name");
        w.name(3, 1).name(2, 2).choice(1).name(3, 2).choice(1).name(2, 2).choice(1).name(3, 2).choice(1);
        w.make(0).begin(0, true).comes(2, 3);
        Calls v = new Calls("14: none when no name can come, at the end and behind what begins no row");
        v.name(7, 1).often(1, true).make(0).begin(0, true).comes(7).read(7, 1).comes().back(7).read(8, 1).comes();
        nextOfTheMost();
    }

    // 255 names joined to a choice leave one call only: so each of the edges has an object of its own.
    private static void nextOfTheMost() {
        int[][] edges = {{-1, NONE}, {0, 746}, {63, 809}, {64, 810}, {127, 873}, {128, 874}, {253, 999}, {254, 1000}, {255, NONE}};
        for (int[] edge : edges) {
            Calls x = new Calls("14: of 255 that could come");
            x.name(1000, 1);
            for (int i = 1; i < 255; i++) {
                x.name(1000 - i, 2).choice(1);
            }
            x.make(0).begin(0, true).next(edge[0], edge[1]);
        }
    }

    // ---- Promise 15

    private static void back() {
        new Calls("15: NONE when there is none, new").back(NONE);
        Calls x = new Calls("15: NONE when there is none, nothing begun");
        x.name(1, 1).make(0).back(NONE).read(1, NONE).back(NONE).begin(1, false).back(NONE);
        Calls y = new Calls("15: NONE when there is none, nothing read");
        y.begunWith(1).back(NONE).back(NONE).comes(1).read(1, 1).whole(true).back(1).back(NONE).read(1, 1);
        Calls z = new Calls("15: refused ones do not count");
        z.begunWith(1);
        for (int i = 0; i < 100; i++) {
            z.back(NONE);
        }
        z.read(1, 1).whole(true).read(2, 2).back(2).whole(true).back(1).back(NONE).whole(false).comes(1);
        Calls w = new Calls("15: NONE behind a new begin");
        w.name(1, 1).often(2, true).make(0).begin(0, true).read(1, 1).read(1, 2).begin(0, true).back(NONE);
        w.read(1, 1).begin(-1, false).back(1).back(NONE);
        Calls v = new Calls("15: all that was read, from the last on");
        v.begunWith(1);
        for (int i = 1; i <= 250; i++) {
            v.read(1001 - i, i);
        }
        for (int i = 250; i >= 1; i--) {
            v.back(1001 - i);
        }
        v.back(NONE).comes(1);
    }
}
