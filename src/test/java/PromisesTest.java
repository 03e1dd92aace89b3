/**
 * Every promise of the document by itself: ordinary inputs, the edges that it names, wrong inputs.
 *
 * Models are written behind one another as on a stack: numbers are names, "," joins to a row, "|" to
 * a choice, "?" may be, "*" so often as one likes, "+" some times.
 */
public final class PromisesTest {
    private static final int NONE = -1;
    private static final int[] WILD = {
        Integer.MIN_VALUE, Integer.MIN_VALUE + 1, -1001, -256, -2, -1, 1001, 1002, 1256, 65537,
        Integer.MAX_VALUE - 1, Integer.MAX_VALUE
    };
    private static int wrong = 0;
    private static int checks = 0;

    public static void main(String[] args) {
        newObject();
        name();
        nameLimitOfParts();
        nameLimitOfNames();
        row();
        choice();
        often();
        oftenManyTimes();
        clear();
        make();
        makeLimit();
        size();
        isDeterministic();
        begin();
        read();
        readLimit();
        isWhole();
        can();
        next();
        nextOfMany();
        back();
        modelsStayAsTheyWere();
        refusedCallsChangeNothing();
        objectsAreApart();
        System.out.println(wrong == 0 ? "all " + checks + " answers are as due" : wrong + " answers are not as due");
        if (wrong != 0) {
            System.exit(1);
        }
    }

    private static void due(String what, int got, int want) {
        checks++;
        if (got != want) {
            wrong++;
            System.out.println(what + " answered " + got + ", due is " + want);
        }
    }

    private static void due(String what, boolean got, boolean want) {
        due(what, got ? 1 : 0, want ? 1 : 0);
    }

    private static void draft(RowModels x, String text) {
        for (String word : text.split(" ")) {
            boolean taken;
            switch (word) {
                case ",": taken = x.row() != NONE; break;
                case "|": taken = x.choice() != NONE; break;
                case "?": taken = x.often(1); break;
                case "*": taken = x.often(2); break;
                case "+": taken = x.often(3); break;
                default: taken = x.name(Integer.parseInt(word)) != NONE; break;
            }
            due("'" + word + "' of '" + text + "'", taken, true);
        }
    }

    private static RowModels begun(String text) {
        RowModels x = new RowModels();
        draft(x, text);
        due("make() of '" + text + "'", x.make(), 0);
        due("begin(0) of '" + text + "'", x.begin(0), true);
        return x;
    }

    private static void readAll(RowModels x, int... names) {
        for (int n : names) {
            due("read(" + n + ") is taken", x.read(n) != NONE, true);
        }
    }

    private static boolean makes(String text, int... names) {
        RowModels x = begun(text);
        readAll(x, names);
        return x.isWhole();
    }

    private static void dueNext(String what, RowModels x, int... names) {
        for (int k = 0; k < names.length; k++) {
            due(what + ": next(" + k + ")", x.next(k), names[k]);
            due(what + ": can(" + names[k] + ")", x.can(names[k]), true);
        }
        due(what + ": next(" + names.length + ")", x.next(names.length), NONE);
        int could = 0;
        for (int n = 0; n <= 1001; n++) {
            could += x.can(n) ? 1 : 0;
        }
        due(what + ": how many can come", could, names.length);
    }

    private static boolean deterministic(String text) {
        RowModels x = new RowModels();
        draft(x, text);
        due("make() of '" + text + "'", x.make(), 0);
        return x.isDeterministic(0);
    }

    private static void newObject() {
        due("NONE", RowModels.NONE, -1);
        RowModels x = new RowModels();
        due("1: row()", x.row(), NONE);
        due("1: choice()", x.choice(), NONE);
        for (int how = -1; how <= 4; how++) {
            due("1: often(" + how + ")", x.often(how), false);
        }
        due("1: clear()", x.clear(), 0);
        due("1: make()", x.make(), NONE);
        due("1: size(0)", x.size(0), NONE);
        due("1: isDeterministic(0)", x.isDeterministic(0), false);
        due("1: begin(0)", x.begin(0), false);
        due("1: read(1)", x.read(1), NONE);
        due("1: isWhole()", x.isWhole(), false);
        due("1: can(1)", x.can(1), false);
        due("1: next(0)", x.next(0), NONE);
        due("1: back()", x.back(), NONE);
        due("1: name(1)", x.name(1), 1);
    }

    private static void name() {
        RowModels x = new RowModels();
        due("2: name(0)", x.name(0), NONE);
        for (int n : WILD) {
            due("2: name(" + n + ")", x.name(n), NONE);
        }
        due("2: name(1)", x.name(1), 1);
        due("2: name(1000)", x.name(1000), 2);
        due("2: name(1) again", x.name(1), 3);
        due("2: name(1001)", x.name(1001), NONE);
        due("2: three parts", x.clear(), 3);
        RowModels y = begun("1 1000 |");
        dueNext("2: the first and the last name", y, 1, 1000);
    }

    private static void nameLimitOfParts() {
        RowModels x = new RowModels();
        for (int i = 1; i <= 40; i++) {
            due("2: name " + i, x.name(i), i);
        }
        due("2: name 41", x.name(41), NONE);
        due("2: name 41 again", x.name(41), NONE);
        due("2: choice() of 40 parts", x.choice(), 39);
        due("2: name in the free place", x.name(41), 40);
        due("2: name behind it", x.name(42), NONE);
        for (int i = 39; i >= 1; i--) {
            due("2: row() to " + i, x.row(), i);
        }
        due("2: make()", x.make(), 0);
        due("2: size", x.size(0), 41);
        x.begin(0);
        for (int i = 1; i <= 38; i++) {
            x.read(i);
        }
        dueNext("2: the choice in its place", x, 39, 40);
        readAll(x, 40);
        dueNext("2: the last one", x, 41);
    }

    private static void fill(RowModels x, int names) {
        for (int i = 1; i <= names; i++) {
            due("2: name " + i + " of many", x.name(i), i == 1 ? 1 : 2);
            if (i > 1) {
                due("2: row " + i + " of many", x.row(), 1);
            }
        }
    }

    private static void nameLimitOfNames() {
        RowModels x = new RowModels();
        fill(x, 255);
        due("2: name 256", x.name(256), NONE);
        due("2: make() of 255 names", x.make(), 0);
        due("2: size of 255 names", x.size(0), 255);

        RowModels y = new RowModels();
        fill(y, 254);
        due("2: name 255 as a part", y.name(7), 2);
        due("2: name 256 as a part", y.name(8), NONE);
        due("2: both are there", y.clear(), 2);
        due("2: clear() gives the names free", y.name(8), 1);

        RowModels z = new RowModels();
        fill(z, 250);
        due("2: make() of 250 names", z.make(), 0);
        for (int i = 1; i <= 10; i++) {
            due("2: make() gives the names free", z.name(i), i);
        }
    }

    private static void row() {
        RowModels x = new RowModels();
        x.name(1);
        due("3: row() of one", x.row(), NONE);
        x.name(2);
        x.name(3);
        due("3: row() of three", x.row(), 2);
        due("3: row() of two", x.row(), 1);
        due("3: row() of one", x.row(), NONE);
        due("3: still one", x.clear(), 1);

        due("3: row makes both", makes("1 2 ,", 1, 2), true);
        due("3: not turned round", makes("1 2 ,", 2, 1), false);
        due("3: not the first alone", makes("1 2 ,", 1), false);
        due("3: not the second alone", makes("1 2 ,", 2), false);
        due("3: not none", makes("1 2 ,"), false);
        due("3: not more", makes("1 2 ,", 1, 2, 2), false);
        due("3: the first may be none", makes("1 ? 2 ,", 2), true);
        due("3: the second may be none", makes("1 2 ? ,", 1), true);
        due("3: the second is not skipped", makes("1 ? 2 ,", 1), false);
        due("3: the first is not skipped", makes("1 2 ? ,", 2), false);
        due("3: both may be none", makes("1 ? 2 ? ,"), true);
        due("3: both may be none, 1", makes("1 ? 2 ? ,", 1), true);
        due("3: both may be none, 2", makes("1 ? 2 ? ,", 2), true);
        due("3: one of two may be none", makes("1 ? 2 ,"), false);
        due("3: the middle may be none", makes("1 2 ? 3 , ,", 1, 3), true);
        due("3: the middle may be none, joined the other way", makes("1 2 ? , 3 ,", 1, 3), true);
        due("3: no way back", makes("1 2 ? , 3 ,", 2, 3), false);
        due("3: only the last two", makes("1 2 3 , |", 1), true);
        due("3: only the last two, 2 3", makes("1 2 3 , |", 2, 3), true);
        due("3: only the last two, 1 3", makes("1 2 3 , |", 1, 3), false);
    }

    private static void choice() {
        RowModels x = new RowModels();
        x.name(1);
        due("4: choice() of one", x.choice(), NONE);
        x.name(2);
        x.name(3);
        due("4: choice() of three", x.choice(), 2);
        due("4: choice() of two", x.choice(), 1);
        due("4: choice() of one", x.choice(), NONE);
        due("4: still one", x.clear(), 1);

        due("4: the first", makes("1 2 |", 1), true);
        due("4: the second", makes("1 2 |", 2), true);
        due("4: not both", makes("1 2 |", 1, 2), false);
        due("4: not none", makes("1 2 |"), false);
        due("4: none by the first", makes("1 ? 2 |"), true);
        due("4: none by the second", makes("1 2 ? |"), true);
        due("4: the ends of both", makes("1 2 , 3 4 , | 5 ,", 1, 2, 5), true);
        due("4: the ends of both, 3 4", makes("1 2 , 3 4 , | 5 ,", 3, 4, 5), true);
        due("4: not across", makes("1 2 , 3 4 , | 5 ,", 1, 4, 5), false);
        due("4: only the last two", makes("1 2 3 | ,", 1, 3), true);
        due("4: only the last two, 3", makes("1 2 3 | ,", 3), false);
    }

    private static void often() {
        RowModels x = new RowModels();
        x.name(1);
        due("5: often(0)", x.often(0), false);
        due("5: often(4)", x.often(4), false);
        for (int how : WILD) {
            due("5: often(" + how + ")", x.often(how), false);
        }
        due("5: make()", x.make(), 0);
        x.begin(0);
        due("5: refused ones change nothing", x.isWhole(), false);
        readAll(x, 1);
        due("5: refused ones change nothing, can", x.can(1), false);
        for (int how = 1; how <= 3; how++) {
            due("5: no part behind make()", x.often(how), false);
        }

        String[] marks = {"?", "*", "+"};
        boolean[][] want = {{true, true, false, false}, {true, true, true, true}, {false, true, true, true}};
        for (int i = 0; i < 3; i++) {
            due("5: none of 1 " + marks[i], makes("1 " + marks[i]), want[i][0]);
            due("5: one of 1 " + marks[i], makes("1 " + marks[i], 1), want[i][1]);
            due("5: two of 1 " + marks[i], makes("1 " + marks[i], 1, 1), want[i][2]);
            due("5: three of 1 " + marks[i], makes("1 " + marks[i], 1, 1, 1), want[i][3]);
        }
        due("5: only the last part", makes("1 2 * ,", 1, 2, 2), true);
        due("5: only the last part, not the first", makes("1 2 * ,", 1, 1, 2), false);
        due("5: the whole row again", makes("1 2 , *", 1, 2, 1, 2), true);
        due("5: not half a row", makes("1 2 , *", 1, 2, 1), false);
        due("5: not turned round", makes("1 2 , *", 2, 1), false);
        due("5: any of a choice", makes("1 2 | +", 2, 1, 1, 2), true);
        due("5: some times of what may be none", makes("1 ? +"), true);
        due("5: some times, then may be", makes("1 + ?"), true);
        due("5: may be, then some times, twice", makes("1 ? +", 1, 1), true);
        due("5: so often, then may be", makes("1 * ?", 1, 1, 1), true);
        due("5: skipping inside a repeated row", makes("1 ? 2 ? , +", 2, 1, 1, 2, 2), true);
        due("5: inside only", makes("1 * 2 ,", 1, 1, 2), true);
        due("5: inside only, not the row", makes("1 * 2 ,", 1, 2, 1, 2), false);
    }

    private static void oftenManyTimes() {
        RowModels x = new RowModels();
        x.name(5);
        for (int i = 0; i < 480; i++) {
            due("5: often " + i, x.often(1 + i % 3), true);
        }
        due("5: make() of a deep part", x.make(), 0);
        due("5: size of a deep part", x.size(0), 1);
        due("5: deterministic", x.isDeterministic(0), true);
        x.begin(0);
        due("5: whole", x.isWhole(), true);
        readAll(x, 5, 5, 5);
        due("5: whole with three", x.isWhole(), true);
    }

    private static void clear() {
        RowModels x = new RowModels();
        due("6: clear() of none", x.clear(), 0);
        draft(x, "1 2 3 4 , *");
        due("6: clear() of three", x.clear(), 3);
        due("6: clear() again", x.clear(), 0);
        due("6: row()", x.row(), NONE);
        due("6: choice()", x.choice(), NONE);
        due("6: often(1)", x.often(1), false);
        due("6: make()", x.make(), NONE);
        draft(x, "1");
        due("6: make()", x.make(), 0);
        due("6: models stay", x.size(0), 1);
        due("6: begin(0)", x.begin(0), true);
        dueNext("6: nothing is left of the old draft", x, 1);
        readAll(x, 1);
        dueNext("6: nothing is left behind it", x);
        draft(x, "8 *");
        due("6: clear() of one", x.clear(), 1);
        draft(x, "8");
        due("6: make() of the same name", x.make(), 1);
        due("6: begin(1)", x.begin(1), true);
        due("6: no 'so often' is left", x.isWhole(), false);
        readAll(x, 8);
        dueNext("6: nor what it let follow", x);
        draft(x, "8 9");
        due("6: clear() of two", x.clear(), 2);
        due("6: models stay", x.size(0), 1);
        due("6: what was read stays", x.isWhole(), true);
    }

    private static void make() {
        RowModels x = new RowModels();
        due("7: make() of none", x.make(), NONE);
        draft(x, "1 2");
        due("7: make() of two", x.make(), NONE);
        due("7: the draft stays", x.row(), 1);
        due("7: make() of one", x.make(), 0);
        due("7: the draft is empty", x.clear(), 0);
        due("7: make() again", x.make(), NONE);
        draft(x, "3 + 3 |");
        due("7: the second", x.make(), 1);
        due("7: its size", x.size(1), 2);
        due("7: the first one's size", x.size(0), 2);
        x.begin(1);
        dueNext("7: the second is not the first", x, 3);
        x.begin(0);
        dueNext("7: the first is there still", x, 1);
        readAll(x, 1);
        dueNext("7: the first is there still, behind 1", x, 2);
    }

    private static void makeLimit() {
        RowModels x = new RowModels();
        for (int m = 0; m < 50; m++) {
            x.name(m + 1);
            due("7: model " + m, x.make(), m);
        }
        draft(x, "60");
        due("7: model 50", x.make(), NONE);
        due("7: no model 50", x.size(50), NONE);
        due("7: the draft stays", x.name(61), 2);
        due("7: the draft stays whole", x.clear(), 2);
        for (int m = 0; m < 50; m++) {
            due("7: begin(" + m + ")", x.begin(m), true);
            due("7: its name", x.next(0), m + 1);
        }
        due("7: begin(50)", x.begin(50), false);
    }

    private static void size() {
        RowModels x = new RowModels();
        due("8: size(0)", x.size(0), NONE);
        draft(x, "4 4 , 4 | +");
        due("8: a draft is no model", x.size(0), NONE);
        x.make();
        due("8: each occurrence counts", x.size(0), 3);
        due("8: size(1)", x.size(1), NONE);
        for (int m : WILD) {
            due("8: size(" + m + ")", x.size(m), NONE);
        }
        draft(x, "9");
        x.make();
        due("8: size(1)", x.size(1), 1);
        due("8: size(0)", x.size(0), 3);
    }

    private static void isDeterministic() {
        due("9: a name", deterministic("1"), true);
        due("9: the same name in a row", deterministic("1 1 ,"), true);
        due("9: the same name in a choice", deterministic("1 1 |"), false);
        due("9: two names in a choice", deterministic("1 2 |"), true);
        due("9: a, b or a, c", deterministic("1 2 , 1 3 , |"), false);
        due("9: a, then b or c", deterministic("1 2 3 | ,"), true);
        due("9: a?, a", deterministic("1 ? 1 ,"), false);
        due("9: a?, b", deterministic("1 ? 2 ,"), true);
        due("9: a*, a", deterministic("1 * 1 ,"), false);
        due("9: a+, a", deterministic("1 + 1 ,"), false);
        due("9: a, a*", deterministic("1 1 * ,"), true);
        due("9: a, a?", deterministic("1 1 ? ,"), true);
        due("9: (a, a?)*", deterministic("1 1 ? , *"), false);
        due("9: (a, a?)?", deterministic("1 1 ? , ?"), true);
        due("9: (a, b?)*", deterministic("1 2 ? , *"), true);
        due("9: (b?, a)+", deterministic("2 ? 1 , +"), true);
        due("9: a**", deterministic("1 * *"), true);
        due("9: (a*, b*)*", deterministic("1 * 2 * , *"), true);
        due("9: (a | b)*, a", deterministic("1 2 | * 1 ,"), false);
        due("9: (b*, a)*", deterministic("2 * 1 , *"), true);
        due("9: x, (a | a)", deterministic("9 1 1 | ,"), false);
        due("9: (x, a) | (y, a)", deterministic("8 1 , 9 1 , |"), true);
        due("9: ((x, a) | (y, a)), a", deterministic("8 1 , 9 1 , | 1 ,"), true);
        due("9: ((x, a?) | y), a", deterministic("8 1 ? , 9 | 1 ,"), false);
        due("9: (a, b, a?)+", deterministic("1 2 , 1 ? , +"), false);
        due("9: apart by others between them", deterministic("5 1 | 9 | 1 | 7 |"), false);
        due("9: neighbours by number", deterministic("1 2 | 3 | 1000 | 999 |"), true);

        RowModels x = new RowModels();
        draft(x, "1");
        due("9: a draft is no model", x.isDeterministic(0), false);
        x.make();
        draft(x, "1 1 |");
        x.make();
        due("9: the first", x.isDeterministic(0), true);
        due("9: the second", x.isDeterministic(1), false);
        due("9: the first again", x.isDeterministic(0), true);
        due("9: none such", x.isDeterministic(2), false);
        for (int m : WILD) {
            due("9: isDeterministic(" + m + ")", x.isDeterministic(m), false);
        }
    }

    private static void begin() {
        RowModels x = new RowModels();
        draft(x, "1 2 ,");
        due("10: a draft is no model", x.begin(0), false);
        x.make();
        due("10: a model does not begin by itself", x.read(1), NONE);
        for (int m : WILD) {
            due("10: begin(" + m + ")", x.begin(m), false);
        }
        due("10: nothing was begun", x.read(1), NONE);
        due("10: begin(0)", x.begin(0), true);
        readAll(x, 1, 2);
        due("10: whole", x.isWhole(), true);
        due("10: begin(1)", x.begin(1), false);
        for (int m : WILD) {
            due("10: begin(" + m + ") later", x.begin(m), false);
        }
        due("10: what was read stays", x.isWhole(), true);
        due("10: begin(0) again", x.begin(0), true);
        due("10: no name was read", x.back(), NONE);
        due("10: not whole", x.isWhole(), false);
        due("10: read(1)", x.read(1), 1);
        draft(x, "7 *");
        x.make();
        due("10: making is not beginning", x.next(0), 2);
        due("10: begin(1)", x.begin(1), true);
        due("10: whole", x.isWhole(), true);
        dueNext("10: the other model", x, 7);
        due("10: no name was read", x.back(), NONE);
    }

    private static void read() {
        RowModels x = begun("1 2 ,");
        due("11: read(0)", x.read(0), NONE);
        for (int n : WILD) {
            due("11: read(" + n + ")", x.read(n), NONE);
        }
        due("11: read(1)", x.read(1), 1);
        due("11: read(0)", x.read(0), NONE);
        due("11: read(1001)", x.read(1001), NONE);
        due("11: refused ones change nothing", x.next(0), 2);
        due("11: read(2)", x.read(2), 2);
        due("11: whole", x.isWhole(), true);
        due("11: what can not come is read too", x.read(1000), 3);
        due("11: not whole", x.isWhole(), false);
        due("11: and more", x.read(1), 4);
        due("11: not whole", x.isWhole(), false);
        dueNext("11: nothing can come", x);
    }

    // No run of 512 calls gets there; the document names the limit all the same.
    private static void readLimit() {
        RowModels x = begun("1 *");
        for (int i = 1; i <= 1000; i++) {
            due("11: read " + i, x.read(1), i);
        }
        due("11: read 1001", x.read(1), NONE);
        due("11: whole", x.isWhole(), true);
        due("11: can(1)", x.can(1), true);
        due("11: back()", x.back(), 1);
        due("11: read 1000 again", x.read(2), 1000);
        due("11: not whole", x.isWhole(), false);
        due("11: read 1001 again", x.read(1), NONE);
        due("11: back()", x.back(), 2);
    }

    private static void isWhole() {
        RowModels x = new RowModels();
        draft(x, "1 *");
        due("12: nothing was begun", x.isWhole(), false);
        x.make();
        due("12: nothing was begun yet", x.isWhole(), false);
        x.begin(0);
        due("12: none", x.isWhole(), true);
        due("12: asked again", x.isWhole(), true);
        due("12: begins is not enough", makes("1 2 , 3 ,", 1, 2), false);
        due("12: one of several ways", makes("1 2 , 1 |", 1), true);
        due("12: the other way", makes("1 2 , 1 |", 1, 2), true);
        due("12: two ways at once", makes("1 2 | * 1 , 1 2 | ,", 2, 1, 1, 2), true);
        due("12: the last but one decides", makes("1 2 | * 1 , 1 2 | ,", 1, 1, 2, 2), false);
    }

    private static void can() {
        RowModels x = new RowModels();
        draft(x, "1 2 ? , 3 ,");
        due("13: nothing was begun", x.can(1), false);
        x.make();
        due("13: nothing was begun yet", x.can(1), false);
        x.begin(0);
        due("13: can(0)", x.can(0), false);
        for (int n : WILD) {
            due("13: can(" + n + ")", x.can(n), false);
        }
        dueNext("13: at first", x, 1);
        readAll(x, 1);
        dueNext("13: behind 1", x, 2, 3);
        due("13: asking reads nothing", x.can(3), true);
        due("13: asking reads nothing, again", x.can(2), true);
        readAll(x, 2);
        dueNext("13: behind 1 2", x, 3);
        readAll(x, 3);
        dueNext("13: behind 1 2 3", x);
        RowModels y = begun("1 2 , 3 ,");
        readAll(y, 2);
        dueNext("13: behind what begins no row", y);
    }

    private static void next() {
        RowModels x = new RowModels();
        draft(x, "9 4 | 1000 | 4 | 1 |");
        due("14: nothing was begun", x.next(0), NONE);
        x.make();
        due("14: nothing was begun yet", x.next(0), NONE);
        x.begin(0);
        dueNext("14: by number, each once", x, 1, 4, 9, 1000);
        due("14: turned round", x.next(3), 1000);
        due("14: and again", x.next(0), 1);
        for (int k : WILD) {
            due("14: next(" + k + ")", x.next(k), NONE);
        }
        readAll(x, 4);
        dueNext("14: the end is no name", x);
        RowModels y = begun("5 6 3 2 | | ? , *");
        readAll(y, 5);
        dueNext("14: out of the row and round", y, 2, 3, 5, 6);
        readAll(y, 5, 6);
        dueNext("14: only round", y, 5);
    }

    private static void nextOfMany() {
        RowModels x = new RowModels();
        for (int i = 0; i < 255; i++) {
            x.name(1000 - 3 * i);
            if (i > 0) {
                x.choice();
            }
        }
        x.often(3);
        due("14: 255 names", x.make(), 0);
        due("9: 255 names", x.isDeterministic(0), true);
        x.begin(0);
        due("12: none of 255", x.isWhole(), false);
        for (int k = 0; k < 255; k++) {
            due("14: next(" + k + ") of 255", x.next(k), 238 + 3 * k);
        }
        due("14: next(255) of 255", x.next(255), NONE);
        due("11: the last of 255", x.read(238), 1);
        due("12: the last of 255", x.isWhole(), true);
        due("14: next(254) behind it", x.next(254), 1000);
        due("14: next(255) behind it", x.next(255), NONE);
    }

    private static void back() {
        RowModels x = new RowModels();
        draft(x, "1 2 | * 1 ,");
        due("15: nothing was begun", x.back(), NONE);
        x.make();
        x.begin(0);
        due("15: nothing was read", x.back(), NONE);
        readAll(x, 2, 1);
        due("15: whole", x.isWhole(), true);
        readAll(x, 7);
        due("15: not whole", x.isWhole(), false);
        due("15: what could not come", x.back(), 7);
        due("15: whole again", x.isWhole(), true);
        dueNext("15: what can come again", x, 1, 2);
        due("15: the next one", x.back(), 1);
        due("15: not whole", x.isWhole(), false);
        due("15: another instead", x.read(2), 2);
        due("15: not whole", x.isWhole(), false);
        due("15: and back", x.back(), 2);
        due("15: and back", x.back(), 2);
        due("15: none is left", x.back(), NONE);
        due("15: none is left, again", x.back(), NONE);
        due("15: reads from the start", x.read(1), 1);
        due("15: whole", x.isWhole(), true);
        x.begin(0);
        due("15: not over a begin", x.back(), NONE);
    }

    private static void modelsStayAsTheyWere() {
        RowModels x = new RowModels();
        draft(x, "1 2 , *");
        x.make();
        x.begin(0);
        readAll(x, 1);
        draft(x, "3 4 | + 5 , 6 , 7 ,");
        dueNext("7: a new draft changes no model", x, 2);
        x.make();
        x.clear();
        dueNext("7: a new model changes no other", x, 2);
        readAll(x, 2);
        dueNext("7: nor what is behind it", x, 1);
        due("7: nor what is whole", x.isWhole(), true);
    }

    private static void refusedCallsChangeNothing() {
        RowModels x = begun("1 2 , 3 ,");
        readAll(x, 1);
        draft(x, "4");
        for (int wild : WILD) {
            x.name(wild);
            x.often(wild);
            x.begin(wild);
            x.read(wild);
            x.row();
            x.choice();
        }
        due("the draft stays", x.clear(), 1);
        x.make();
        due("no model came", x.size(1), NONE);
        dueNext("what was read stays", x, 2);
        due("back()", x.back(), 1);
        due("back()", x.back(), NONE);
    }

    private static void objectsAreApart() {
        RowModels x = begun("1 2 ,");
        RowModels y = begun("3 4 ,");
        readAll(x, 1);
        dueNext("one object", x, 2);
        dueNext("another object", y, 3);
        readAll(y, 3, 4);
        due("one is not whole", x.isWhole(), false);
        due("another is whole", y.isWhole(), true);
        draft(x, "5");
        due("another draft", y.clear(), 0);
    }
}
