import java.io.IOException;
import java.nio.file.Files;
import java.nio.file.Path;
import java.util.ArrayList;
import java.util.List;
import java.util.Set;
import java.util.TreeSet;
import java.util.regex.Matcher;
import java.util.regex.Pattern;

/**
 * The document from its first line on: each sentence of "Terms" and of the promises, in its own words and
 * order, with runs of calls that answer otherwise when the sentence is broken. At the end the sentences
 * told here are held against those of ../shared/DOC.md, so that none is left out.
 *
 * A run is made on a new object; each call states the answer that is due: "name(1)=1 row()=NONE".
 * Models are written as on a stack: numbers are names, "," joins to a row, "|" to a choice, "?" may be,
 * "*" so often as one likes, "+" some times.
 */
public final class SentencesTest {
    private static final int PROMISED_CALLS = 512;
    private static final Pattern CALL = Pattern.compile("(\\w+)\\((-?\\w*)\\)=(-?\\w+)");
    private static final Path DOCUMENT = Path.of("../shared/DOC.md");

    private static final List<String> told = new ArrayList<>();
    private static String sentence = "";
    private static int wrong = 0;
    private static int checks = 0;

    public static void main(String[] args) throws IOException {
        whatItIs();
        names();
        rowsOfNames();
        occurrences();
        deterministicModels();
        theDraft();
        modelNumbers();
        refusedCalls();
        newObject();
        name();
        row();
        choice();
        often();
        clear();
        make();
        size();
        isDeterministic();
        begin();
        read();
        isWhole();
        can();
        next();
        back();
        noSentenceIsLeftOut();
        System.out.println(wrong == 0 ? "all " + checks + " answers are as due" : wrong + " answers are not as due");
        if (wrong != 0) {
            System.exit(1);
        }
    }

    // ---- how runs are told

    private static void sentence(String text) {
        told.add(text);
        sentence = text;
    }

    private static void fault(String text) {
        wrong++;
        System.out.println("[" + sentence + "] " + text);
    }

    private static void run(String calls) {
        run(calls, PROMISED_CALLS);
    }

    private static void run(String calls, int most) {
        int made = play(new RowModels(), calls);
        if (made > most) {
            fault("the test makes " + made + " calls, more than " + most);
        }
    }

    /** Makes the calls, each held against the answer that is due; answers how many there were. */
    private static int play(RowModels x, String calls) {
        String[] words = calls.trim().split("\\s+");
        for (int i = 0; i < words.length; i++) {
            Matcher m = CALL.matcher(words[i]);
            if (!m.matches()) {
                throw new IllegalArgumentException("no call: " + words[i]);
            }
            String got = answer(x, m.group(1), number(m.group(2)));
            String want = m.group(3).equals("NONE") ? "-1" : m.group(3);
            checks++;
            if (!got.equals(want)) {
                fault("call " + (i + 1) + ", " + words[i] + ", answered " + got);
            }
        }
        return words.length;
    }

    private static int number(String text) {
        switch (text) {
            case "": return 0;
            case "MIN": return Integer.MIN_VALUE;
            case "MAX": return Integer.MAX_VALUE;
            default: return Integer.parseInt(text);
        }
    }

    private static String answer(RowModels x, String call, int a) {
        switch (call) {
            case "name": return String.valueOf(x.name(a));
            case "row": return String.valueOf(x.row());
            case "choice": return String.valueOf(x.choice());
            case "often": return String.valueOf(x.often(a));
            case "clear": return String.valueOf(x.clear());
            case "make": return String.valueOf(x.make());
            case "size": return String.valueOf(x.size(a));
            case "isDeterministic": return String.valueOf(x.isDeterministic(a));
            case "begin": return String.valueOf(x.begin(a));
            case "read": return String.valueOf(x.read(a));
            case "isWhole": return String.valueOf(x.isWhole());
            case "can": return String.valueOf(x.can(a));
            case "next": return String.valueOf(x.next(a));
            case "back": return String.valueOf(x.back());
            default: throw new IllegalArgumentException("no call: " + call);
        }
    }

    /** The calls that put a model's parts into an empty draft, with their answers. */
    private static String draft(String model) {
        StringBuilder calls = new StringBuilder();
        int parts = 0;
        for (String word : model.trim().split("\\s+")) {
            switch (word) {
                case ",": calls.append("row()=").append(--parts); break;
                case "|": calls.append("choice()=").append(--parts); break;
                case "?": calls.append("often(1)=true"); break;
                case "*": calls.append("often(2)=true"); break;
                case "+": calls.append("often(3)=true"); break;
                default: calls.append("name(").append(word).append(")=").append(++parts); break;
            }
            calls.append(' ');
        }
        return calls.toString();
    }

    private static String made(String model, int number) {
        return draft(model) + "make()=" + number + " ";
    }

    private static String begun(String model) {
        return made(model, 0) + "begin(0)=true ";
    }

    /** The names that can come are just these. */
    private static String comes(int... names) {
        StringBuilder calls = new StringBuilder("next(-1)=NONE ");
        for (int k = 0; k < names.length; k++) {
            calls.append("next(" + k + ")=" + names[k] + " can(" + names[k] + ")=true ");
        }
        return calls + "next(" + names.length + ")=NONE ";
    }

    /** One behind the other: call(1)=1 call(2)=2 and so on. */
    private static String counted(String call, int from, int to) {
        StringBuilder calls = new StringBuilder();
        for (int i = from; i <= to; i++) {
            calls.append(call + "(" + i + ")=" + i + " ");
        }
        return calls.toString();
    }

    /** A join down to a number of parts. */
    private static String joined(String join, int from, int to) {
        StringBuilder calls = new StringBuilder();
        for (int parts = from - 1; parts >= to; parts--) {
            calls.append(join + "()=" + parts + " ");
        }
        return calls.toString();
    }

    // ---- rows that a model makes, all of them up to a length

    private static final int LONGEST = 4;
    private static final int NAMES = 3;

    /** Of all rows of the names 1, 2 and 3 up to four names, the model makes just these. */
    private static void makes(String model, String... rows) {
        RowModels x = new RowModels();
        TreeSet<String> got = new TreeSet<>();
        int made = play(x, begun(model)) + collect(x, "", got);
        TreeSet<String> want = new TreeSet<>(Set.of(rows));
        checks++;
        if (made > PROMISED_CALLS) {
            fault("the test makes " + made + " calls");
        }
        if (!got.equals(want)) {
            fault("'" + model + "' makes " + got + ", due is " + want);
        }
    }

    /** Reads on in every way and back again; answers how many calls that took. */
    private static int collect(RowModels x, String row, Set<String> whole) {
        int calls = 1;
        if (x.isWhole()) {
            whole.add(row);
        }
        for (int n = 1; n <= NAMES && row.length() < LONGEST; n++) {
            x.read(n);
            calls += 2 + collect(x, row + n, whole);
            x.back();
        }
        return calls;
    }

    /** All rows of these names from one length to another. */
    private static String[] all(String names, int from, int to) {
        List<String> rows = new ArrayList<>();
        List<String> last = List.of("");
        for (int length = 0; length <= to; length++) {
            if (length >= from) {
                rows.addAll(last);
            }
            List<String> longer = new ArrayList<>();
            for (String row : last) {
                for (char n : names.toCharArray()) {
                    longer.add(row + n);
                }
            }
            last = longer;
        }
        return rows.toArray(new String[0]);
    }

    private static void deterministic(String model, boolean want) {
        run(made(model, 0) + "isDeterministic(0)=" + want);
    }

    // ---- What it is

    // Not a sentence of the terms or promises, so it is not told: the last call that counts.
    private static void whatItIs() {
        sentence = "An object is used for at most 512 calls after it has been made";
        StringBuilder calls = new StringBuilder(begun("1 *"));
        for (int i = 1; i <= 507; i++) {
            calls.append("read(1)=" + i + " ");
        }
        run(calls + "isWhole()=true");
    }

    // ---- Terms

    private static void names() {
        sentence("NAMES are 1 .. 1000.");
        run("name(0)=NONE name(1)=1 name(2)=2 name(999)=3 name(1000)=4 name(1001)=NONE name(-1)=NONE clear()=4");
        run("name(MIN)=NONE name(-1000)=NONE name(1024)=NONE name(65537)=NONE name(MAX)=NONE clear()=0");
        for (int n = 1; n <= 1000; n++) {
            run("name(" + n + ")=1 make()=0 begin(0)=true next(0)=" + n + " can(" + n + ")=true read(" + n
                + ")=1 isWhole()=true back()=" + n);
        }
        run(begun("1 1000 |") + comes(1, 1000) + "can(0)=false can(1001)=false read(0)=NONE read(1001)=NONE "
            + "read(1)=1 read(1000)=2 back()=1000 back()=1");
    }

    private static void rowsOfNames() {
        sentence("A MODEL makes rows of names (a set of them): a name alone makes the row of that name; a ROW of"
            + " two parts those of the first one, each with one of the second behind it; a CHOICE of two parts"
            + " those of both; a part that MAY BE these and the row of no name; a part SO OFTEN as one likes any"
            + " number of its rows, one behind the other, none too; a part SOME TIMES the same, one at least.");
        aName();
        aRow();
        aChoice();
        aPartThatMayBe();
        aPartSoOften();
        aPartSomeTimes();
    }

    private static void aName() {
        makes("1", "1");
        makes("2", "2");
        makes("3", "3");
        makes("4");
    }

    private static void aRow() {
        makes("1 2 ,", "12");
        makes("2 1 ,", "21");
        makes("1 1 ,", "11");
        makes("1 2 , 3 ,", "123");
        makes("1 2 3 , ,", "123");
        makes("1 2 | 3 ,", "13", "23");
        makes("1 2 3 | ,", "12", "13");
        makes("1 2 | 2 3 | ,", "12", "13", "22", "23");
        makes("1 ? 2 ,", "2", "12");
        makes("1 2 ? ,", "1", "12");
        makes("1 ? 2 ? ,", "", "1", "2", "12");
        makes("1 2 ? , 3 ,", "13", "123");
        makes("1 2 ? 3 , ,", "13", "123");
        makes("1 ? 2 ? , 3 ,", "3", "13", "23", "123");
        makes("1 2 ? 3 ? , ,", "1", "12", "13", "123");
        makes("1 + 1 ,", "11", "111", "1111");
        makes("1 2 * ,", "1", "12", "122", "1222");
        makes("1 * 2 ,", "2", "12", "112", "1112");
        makes("1 2 , 3 1 , ,", "1231");
        makes("1 2 , 3 , 1 , 2 ,");
    }

    private static void aChoice() {
        makes("1 2 |", "1", "2");
        makes("1 1 |", "1");
        makes("1 2 | 3 |", "1", "2", "3");
        makes("1 2 3 | |", "1", "2", "3");
        makes("1 2 , 3 |", "12", "3");
        makes("3 1 2 , |", "12", "3");
        makes("1 2 , 3 1 , |", "12", "31");
        makes("1 2 , 1 3 , |", "12", "13");
        makes("1 2 , 1 |", "1", "12");
        makes("1 ? 2 |", "", "1", "2");
        makes("1 2 ? |", "", "1", "2");
        makes("1 ? 2 ? |", "", "1", "2");
        makes("1 2 , 3 1 , | 2 ,", "122", "312");
        makes("2 1 2 , 3 1 , | ,", "212", "231");
        makes("1 * 2 |", "", "1", "11", "111", "1111", "2");
    }

    private static void aPartThatMayBe() {
        makes("1 ?", "", "1");
        makes("1 ? ?", "", "1");
        makes("1 2 , ?", "", "12");
        makes("1 2 | ?", "", "1", "2");
        makes("1 2 , ? 3 ,", "3", "123");
        makes("1 + ?", "", "1", "11", "111", "1111");
        makes("1 * ?", "", "1", "11", "111", "1111");
    }

    private static void aPartSoOften() {
        makes("1 *", "", "1", "11", "111", "1111");
        makes("1 * *", "", "1", "11", "111", "1111");
        makes("1 ? *", "", "1", "11", "111", "1111");
        makes("1 + *", "", "1", "11", "111", "1111");
        makes("1 2 , *", "", "12", "1212");
        makes("1 2 , 3 , *", "", "123");
        makes("1 2 | *", all("12", 0, LONGEST));
        makes("1 2 | 3 | *", all("123", 0, LONGEST));
        makes("1 2 , 3 | *", "", "3", "12", "33", "123", "312", "333", "1212", "1233", "3123", "3312", "3333");
        makes("1 ? 2 , *", "", "2", "12", "22", "122", "212", "222", "1212", "1222", "2122", "2212", "2222");
        makes("1 2 ? , *", "", "1", "11", "12", "111", "112", "121", "1111", "1112", "1121", "1211", "1212");
        makes("1 ? 2 ? , *", all("12", 0, LONGEST));
        makes("1 * 2 * , *", all("12", 0, LONGEST));
        makes("1 2 , * 3 ,", "3", "123");
        makes("3 1 2 , * ,", "3", "312");
        makes("1 * 2 * ,", "", "1", "2", "11", "12", "22", "111", "112", "122", "222", "1111", "1112", "1122",
            "1222", "2222");
    }

    private static void aPartSomeTimes() {
        makes("1 +", "1", "11", "111", "1111");
        makes("1 + +", "1", "11", "111", "1111");
        makes("1 ? +", "", "1", "11", "111", "1111");
        makes("1 * +", "", "1", "11", "111", "1111");
        makes("1 2 , +", "12", "1212");
        makes("1 2 | +", all("12", 1, LONGEST));
        makes("1 ? 2 , +", "2", "12", "22", "122", "212", "222", "1212", "1222", "2122", "2212", "2222");
        makes("1 2 ? , +", "1", "11", "12", "111", "112", "121", "1111", "1112", "1121", "1211", "1212");
        makes("1 ? 2 ? , +", all("12", 0, LONGEST));
        makes("1 2 , + 3 ,", "123");
        makes("1 + 2 + ,", "12", "112", "122", "1112", "1122", "1222");
        makes("1 + 2 |", "1", "2", "11", "111", "1111");
    }

    private static void occurrences() {
        sentence("Each name that a model is made of is an OCCURRENCE: rows of occurrences are made just so, and"
            + " show names.");
        run(made("1", 0) + made("1 1 ,", 1) + made("1 1 |", 2) + made("1 2 | 1 , 2 |", 3)
            + "size(0)=1 size(1)=2 size(2)=2 size(3)=4");
        run(made("1 * + ?", 0) + "size(0)=1 " + made("1 1 , * 1 ? , +", 1) + "size(1)=3");
        run(begun("1 1 |") + comes(1) + "read(1)=1 isWhole()=true back()=1");
        run(begun("1 2 , 1 3 , |") + comes(1) + "read(1)=1 " + comes(2, 3) + "read(2)=2 isWhole()=true " + comes());
        makes("1 1 |", "1");
        makes("1 1 ,", "11");
        makes("1 1 | 1 | 1 ,", "11");
        makes("1 2 | * 1 ,", rowsThatEndWith1());
    }

    private static String[] rowsThatEndWith1() {
        List<String> rows = new ArrayList<>();
        for (String row : all("12", 0, LONGEST - 1)) {
            rows.add(row + "1");
        }
        return rows.toArray(new String[0]);
    }

    private static void deterministicModels() {
        sentence("A model is DETERMINISTIC when no row of occurrences can be followed, within rows that the model"
            + " makes of occurrences, by two different occurrences of the same name.");
        twoThatComeFirst();
        twoThatFollow();
        oneThatComesAgain();
        // Of a row's occurrences only what is behind the very last one counts, not behind its name.
        deterministic("8 1 , 9 1 , |", true);
        deterministic("8 1 , 9 1 , | 1 ,", true);
        deterministic("8 1 ? , 9 | 1 ,", false);
        deterministic("2 1 , 3 , 4 1 , 3 , |", true);
    }

    private static void twoThatComeFirst() {
        deterministic("1 1 |", false);
        deterministic("1 2 |", true);
        deterministic("1 2 , 1 3 , |", false);
        deterministic("1 2 , 3 2 , |", true);
        deterministic("1 ? 1 ,", false);
        deterministic("1 ? 2 ,", true);
        deterministic("1 ? 2 ? , 1 ,", false);
        deterministic("1 * 1 ,", false);
        deterministic("5 1 | 9 | 1 | 7 |", false);
        deterministic("1 2 | 3 | 1000 | 999 |", true);
    }

    private static void twoThatFollow() {
        deterministic("1 2 3 | ,", true);
        deterministic("9 1 1 | ,", false);
        deterministic("9 1 ? , 1 ,", false);
        deterministic("1 + 1 ,", false);
        deterministic("1 1 * ,", true);
        deterministic("1 1 ? ,", true);
        deterministic("1 1 ? , *", false);
        deterministic("1 1 ? , +", false);
        deterministic("1 1 ? , ?", true);
        deterministic("1 2 | * 1 ,", false);
        deterministic("1 2 , 1 ? , +", false);
        deterministic("2 1 , * 2 ,", false);
        deterministic("2 1 , + 3 ,", true);
    }

    private static void oneThatComesAgain() {
        deterministic("1", true);
        deterministic("1 *", true);
        deterministic("1 * *", true);
        deterministic("1 ? +", true);
        deterministic("1 1 ,", true);
        deterministic("1 1 , *", true);
        deterministic("1 2 ? , *", true);
        deterministic("2 ? 1 , +", true);
        deterministic("2 * 1 , *", true);
        deterministic("1 * 2 * , *", true);
    }

    private static void theDraft() {
        sentence("THE DRAFT is a row of parts, none at first, of which the last ones are joined.");
        run("clear()=0");
        run("row()=NONE choice()=NONE make()=NONE often(1)=false name(7)=1");
        run("name(1)=1 name(2)=2 name(3)=3 name(4)=4 row()=3 choice()=2 row()=1 make()=0 begin(0)=true "
            + comes(1) + "read(1)=1 " + comes(2, 3) + "read(3)=2 " + comes(4));
        makes("1 2 3 , |", "1", "23");
        makes("1 2 3 | ,", "12", "13");
        makes("1 2 3 ? , ,", "12", "123");
        makes("1 2 ? 3 , ,", "13", "123");
    }

    private static void modelNumbers() {
        sentence("MODELS are numbered from 0 on, as they were made.");
        run("name(30)=1 make()=0 name(10)=1 make()=1 make()=NONE name(9)=1 clear()=1 name(20)=1 make()=2 "
            + "begin(0)=true " + comes(30) + "begin(1)=true " + comes(10) + "begin(2)=true " + comes(20)
            + "begin(3)=false begin(-1)=false");
    }

    // Each kind of refusal once; RefusedTest goes through all of them in many states.
    private static void refusedCalls() {
        sentence("A call that is refused changes nothing.");
        run("name(0)=NONE row()=NONE choice()=NONE often(2)=false make()=NONE begin(0)=false read(1)=NONE back()=NONE "
            + "clear()=0 " + begun("1 2 ,") + "back()=NONE " + comes(1) + "read(1)=1 " + comes(2));
        run(begun("1 2 , 3 ,") + "name(4)=1 read(1)=1 name(1001)=NONE row()=NONE choice()=NONE often(0)=false "
            + "often(4)=false begin(1)=false begin(-1)=false read(0)=NONE read(1001)=NONE size(1)=NONE "
            + comes(2) + "make()=1 begin(1)=true isWhole()=false " + comes(4) + "read(4)=1 isWhole()=true " + comes());
        run("name(1)=1 name(2)=2 make()=NONE row()=1 make()=0 begin(0)=true " + comes(1));
        run("name(0)=NONE name(4)=1 name(1001)=NONE make()=0 size(0)=1 isDeterministic(0)=true begin(0)=true " + comes(4)
            + "read(4)=1 isWhole()=true " + comes());
        run(counted("name", 1, 40) + "name(41)=NONE " + joined("row", 40, 1) + "make()=0 size(0)=40 begin(0)=true "
            + counted("read", 1, 39) + comes(40) + "read(40)=40 isWhole()=true");
        run(fiftyModels() + "begin(49)=true read(50)=1 name(51)=1 often(3)=true make()=NONE size(50)=NONE "
            + "isWhole()=true back()=50 name(52)=2 clear()=2 begin(0)=true " + comes(1));
    }

    private static String fiftyModels() {
        StringBuilder calls = new StringBuilder();
        for (int m = 0; m < 50; m++) {
            calls.append("name(" + (m + 1) + ")=1 make()=" + m + " ");
        }
        return calls.toString();
    }

    // ---- the promises

    private static void newObject() {
        sentence("No parts, no models, nothing is read.");
        run("clear()=0");
        run("row()=NONE choice()=NONE often(1)=false often(2)=false often(3)=false make()=NONE name(1)=1");
        run("size(0)=NONE isDeterministic(0)=false begin(0)=false name(1)=1 make()=0");
        run("back()=NONE read(1)=NONE isWhole()=false can(1)=false next(0)=NONE");
    }

    private static void name() {
        sentence("A name becomes the last part of the draft.");
        makes("1 2 ,", "12");
        makes("2 1 ,", "21");
        run("name(5)=1 name(6)=2 often(2)=true row()=1 make()=0 begin(0)=true read(5)=1 isWhole()=true " + comes(6));
        sentence("Answers how many there are; NONE when it is none, there are 40 parts, or the draft has 255 names.");
        run("name(0)=NONE name(1001)=NONE name(-1)=NONE name(MIN)=NONE name(MAX)=NONE name(1)=1 name(1)=2 name(0)=NONE "
            + "name(1000)=3 name(1001)=NONE clear()=3");
        run(counted("name", 1, 40) + "name(41)=NONE name(1)=NONE choice()=39 name(41)=40 name(42)=NONE clear()=40 name(1)=1");
        run(oneRow(254) + "name(255)=2 name(256)=NONE clear()=2 name(1)=1");
        run(oneRow(255) + "name(256)=NONE make()=0 size(0)=255");
        run(oneRow(250) + "make()=0 " + counted("name", 1, 10));
    }

    /** A row of so many names, joined one by one. */
    private static String oneRow(int names) {
        StringBuilder calls = new StringBuilder("name(1)=1 ");
        for (int i = 2; i <= names; i++) {
            calls.append("name(" + i + ")=2 row()=1 ");
        }
        return calls.toString();
    }

    private static void row() {
        sentence("The last two parts become their row.");
        makes("1 2 ,", "12");
        makes("1 2 3 , |", "1", "23");
        makes("1 2 ? 3 , ,", "13", "123");
        makes("1 2 3 , * ,", "1", "123");
        run(counted("name", 1, 40) + joined("row", 40, 1) + "make()=0 begin(0)=true " + counted("read", 1, 39)
            + "isWhole()=false " + comes(40) + "read(40)=40 isWhole()=true " + comes());
        sentence("Answers how many parts there are; NONE when there are not two.");
        run("row()=NONE name(1)=1 row()=NONE name(2)=2 name(3)=3 row()=2 row()=1 row()=NONE clear()=1 row()=NONE");
        run("name(1)=1 make()=0 row()=NONE name(1)=1 row()=NONE name(1)=2 row()=1");
    }

    private static void choice() {
        sentence("The last two parts become their choice.");
        makes("1 2 |", "1", "2");
        makes("1 2 3 | ,", "12", "13");
        makes("1 2 ? 3 | ,", "1", "12", "13");
        makes("1 2 3 | + ,", rowsOfOneAnd23());
        run(counted("name", 1, 40) + joined("choice", 40, 1) + "make()=0 begin(0)=true isWhole()=false next(0)=1 "
            + "next(39)=40 next(40)=NONE read(40)=1 isWhole()=true " + comes());
        sentence("Answers how many parts there are; NONE when there are not two.");
        run("choice()=NONE name(1)=1 choice()=NONE name(2)=2 name(3)=3 choice()=2 choice()=1 choice()=NONE clear()=1 "
            + "choice()=NONE");
        run("name(1)=1 make()=0 choice()=NONE name(1)=1 choice()=NONE name(1)=2 choice()=1");
    }

    private static String[] rowsOfOneAnd23() {
        List<String> rows = new ArrayList<>();
        for (String row : all("23", 1, LONGEST - 1)) {
            rows.add("1" + row);
        }
        return rows.toArray(new String[0]);
    }

    private static void often() {
        sentence("The last part may be (how = 1), is so often as one likes (2), some times (3).");
        run("name(1)=1 often(1)=true make()=0 begin(0)=true isWhole()=true read(1)=1 isWhole()=true can(1)=false");
        run("name(1)=1 often(2)=true make()=0 begin(0)=true isWhole()=true read(1)=1 isWhole()=true can(1)=true");
        run("name(1)=1 often(3)=true make()=0 begin(0)=true isWhole()=false read(1)=1 isWhole()=true can(1)=true");
        makes("1 2 ? ,", "1", "12");
        makes("1 2 * ,", "1", "12", "122", "1222");
        makes("1 2 + ,", "12", "122", "1222");
        makes("1 2 , 3 * ,", "12", "123", "1233");
        StringBuilder deep = new StringBuilder("name(5)=1 ");
        for (int i = 0; i < 480; i++) {
            deep.append("often(" + (1 + i % 3) + ")=true ");
        }
        run(deep + "make()=0 size(0)=1 isDeterministic(0)=true begin(0)=true isWhole()=true read(5)=1 read(5)=2 "
            + "isWhole()=true");
        sentence("Answers true; false when there is no part, or no such how.");
        run("often(1)=false often(2)=false often(3)=false name(1)=1 often(1)=true often(2)=true often(3)=true "
            + "make()=0 often(1)=false name(1)=1 clear()=1 often(3)=false");
        run("name(1)=1 often(0)=false often(4)=false often(-1)=false often(MIN)=false often(MAX)=false often(257)=false "
            + "make()=0 begin(0)=true isWhole()=false read(1)=1 isWhole()=true " + comes());
    }

    private static void clear() {
        sentence("The draft is empty then.");
        run(draft("1 2 3 4 , *") + "clear()=3 row()=NONE choice()=NONE often(1)=false make()=NONE clear()=0 name(1)=1");
        run("name(8)=1 often(2)=true clear()=1 name(8)=1 make()=0 begin(0)=true isWhole()=false " + comes(8)
            + "read(8)=1 isWhole()=true " + comes());
        run(draft("1 2 , * 3 ,") + "clear()=1 " + draft("1 2 , 3 ,") + "make()=0 size(0)=3 begin(0)=true " + comes(1)
            + "read(1)=1 " + comes(2) + "read(2)=2 " + comes(3) + "read(3)=3 isWhole()=true " + comes());
        run(oneRow(200) + "clear()=1 " + counted("name", 1, 40) + "row()=39 " + namedAndJoined(41, 60));
        run(begun("1 2 ,") + "read(1)=1 name(3)=1 clear()=1 size(0)=2 " + comes(2) + "read(2)=2 isWhole()=true");
        sentence("Answers how many parts it had.");
        run("clear()=0 name(1)=1 clear()=1 clear()=0 name(1)=1 name(2)=2 clear()=2 name(1)=1 name(2)=2 row()=1 "
            + "clear()=1 " + counted("name", 1, 40) + "clear()=40 clear()=0");
    }

    /** Names that come into a draft of 39 parts, each joined at once. */
    private static String namedAndJoined(int from, int to) {
        StringBuilder calls = new StringBuilder();
        for (int i = from; i <= to; i++) {
            calls.append("name(" + i + ")=40 row()=39 ");
        }
        return calls.toString();
    }

    private static void make() {
        sentence("The draft, which is empty then, becomes a model.");
        run(draft("1 2 , 3 |") + "make()=0 clear()=0 begin(0)=true " + comes(1, 3) + "read(1)=1 " + comes(2));
        run(draft("1 2 , *") + "make()=0 row()=NONE choice()=NONE often(1)=false make()=NONE name(3)=1 name(4)=2 row()=1 "
            + "make()=1 begin(1)=true isWhole()=false " + comes(3) + "read(3)=1 " + comes(4) + "read(4)=2 isWhole()=true "
            + comes() + "begin(0)=true isWhole()=true " + comes(1));
        run(begun("1 2 , *") + "read(1)=1 " + draft("3 4 | + 5 ,") + comes(2) + "make()=1 " + comes(2)
            + "read(2)=2 isWhole()=true " + comes(1));
        sentence("Answers its number; NONE when it has not just one part, or there are 50 models.");
        run("make()=NONE name(1)=1 name(2)=2 make()=NONE row()=1 make()=0 make()=NONE name(3)=1 make()=1");
        run(fiftyModels() + "name(51)=1 make()=NONE make()=NONE size(49)=1 size(50)=NONE clear()=1");
        run(counted("name", 1, 40) + "make()=NONE " + joined("row", 40, 2) + "make()=NONE row()=1 make()=0");
    }

    private static void size() {
        sentence("How many occurrences a model has; NONE when there is none such.");
        run(made("4", 0) + made("4 4 , 4 | +", 1) + made("1 2 ,", 2) + "size(0)=1 size(1)=3 size(2)=2 size(3)=NONE "
            + "size(-1)=NONE size(50)=NONE size(256)=NONE size(MIN)=NONE size(MAX)=NONE");
        run("size(0)=NONE name(1)=1 size(0)=NONE make()=0 size(0)=1 name(2)=1 name(3)=2 size(0)=1 size(1)=NONE");
        run(oneRow(255) + "make()=0 size(0)=255");
    }

    private static void isDeterministic() {
        sentence("Whether a model is deterministic; false when there is none such.");
        run(made("1", 0) + made("1 1 |", 1) + made("1 1 ,", 2) + "isDeterministic(0)=true isDeterministic(1)=false "
            + "isDeterministic(2)=true isDeterministic(3)=false isDeterministic(-1)=false isDeterministic(50)=false "
            + "isDeterministic(256)=false isDeterministic(MIN)=false isDeterministic(MAX)=false isDeterministic(0)=true");
        run("isDeterministic(0)=false name(1)=1 isDeterministic(0)=false make()=0 isDeterministic(0)=true "
            + "isDeterministic(1)=false");
        run(begun("1 1 | 2 ,") + "read(1)=1 isDeterministic(0)=false read(2)=2 isDeterministic(0)=false isWhole()=true");
    }

    private static void begin() {
        sentence("Reads for a model from now on: no name was read yet.");
        run(begun("1 2 ,") + "back()=NONE isWhole()=false " + comes(1) + "read(1)=1 read(2)=2 isWhole()=true "
            + "begin(0)=true back()=NONE isWhole()=false " + comes(1) + "read(1)=1 " + comes(2));
        run(made("1", 0) + made("7 *", 1) + "begin(0)=true read(1)=1 isWhole()=true begin(1)=true isWhole()=true "
            + comes(7) + "back()=NONE read(7)=1 " + comes(7) + "begin(0)=true isWhole()=false " + comes(1));
        run(begun("1") + made("2", 1) + comes(1) + "begin(1)=true " + comes(2));
        sentence("Answers true; false when there is none such.");
        run("begin(0)=false name(1)=1 begin(0)=false make()=0 begin(0)=true begin(1)=false begin(-1)=false begin(50)=false "
            + "begin(256)=false begin(MIN)=false begin(MAX)=false begin(0)=true");
        run(made("1", 0) + "begin(1)=false read(1)=NONE begin(-1)=false read(1)=NONE begin(0)=true read(1)=1 "
            + "begin(1)=false isWhole()=true back()=1");
    }

    private static void read() {
        sentence("A name comes.");
        run(begun("1 2 , 3 ,") + "read(1)=1 " + comes(2) + "read(2)=2 " + comes(3) + "read(3)=3 isWhole()=true");
        run(begun("1 2 ,") + "read(2)=1 isWhole()=false " + comes() + "read(1)=2 read(2)=3 isWhole()=false " + comes()
            + "back()=2 back()=1 back()=2 " + comes(1));
        run(begun("1 2 , *") + "read(1)=1 read(1)=2 isWhole()=false " + comes() + "read(2)=3 isWhole()=false " + comes());
        sentence("Answers how many were read; NONE when nothing was begun, it is no name, or 1000 were read.");
        run("read(1)=NONE name(1)=1 read(1)=NONE make()=0 read(1)=NONE begin(1)=false read(1)=NONE begin(0)=true read(1)=1");
        run(begun("1 *") + "read(0)=NONE read(1001)=NONE read(-1)=NONE read(MIN)=NONE read(MAX)=NONE read(1257)=NONE "
            + "read(1)=1 read(1000)=2 read(0)=NONE read(5)=3 back()=5 read(6)=3 begin(0)=true read(1)=1");
        // No object is used long enough to get to 1000: this run alone goes on behind the 512th call.
        StringBuilder many = new StringBuilder(begun("1 *"));
        for (int i = 1; i <= 1000; i++) {
            many.append("read(1)=" + i + " ");
        }
        run(many + "read(1)=NONE read(2)=NONE isWhole()=true back()=1 read(1)=1000 read(1)=NONE", 1100);
    }

    private static void isWhole() {
        sentence("Whether what was read is a row that the model makes; false when nothing was begun.");
        makes("1 2 , 3 ,", "123");
        makes("1 2 , 1 |", "1", "12");
        makes("1 2 | * 1 , 2 ,", "12", "112", "212", "1112", "1212", "2112", "2212");
        run(begun("1 ? 2 ? ,") + "isWhole()=true isWhole()=true read(2)=1 isWhole()=true read(1)=2 isWhole()=false "
            + "back()=1 isWhole()=true back()=2 isWhole()=true read(1)=1 read(2)=2 isWhole()=true");
        run("isWhole()=false name(1)=1 often(2)=true isWhole()=false make()=0 isWhole()=false begin(1)=false isWhole()=false "
            + "begin(0)=true isWhole()=true");
    }

    private static void can() {
        sentence("Whether what was read, with n behind it, begins a row that the model makes; false when nothing was begun.");
        run(begun("1 2 ? , 3 ,") + "can(1)=true can(2)=false can(3)=false read(1)=1 can(1)=false can(2)=true can(3)=true "
            + "can(2)=true read(2)=2 can(1)=false can(2)=false can(3)=true read(3)=3 can(1)=false can(2)=false can(3)=false");
        run(begun("1 2 , 1 3 , |") + "can(1)=true can(2)=false can(3)=false read(1)=1 can(2)=true can(3)=true can(1)=false "
            + "read(3)=2 can(1)=false can(2)=false can(3)=false");
        run(begun("1 2 , 3 ,") + "read(2)=1 can(1)=false can(2)=false can(3)=false read(3)=2 can(3)=false back()=3 back()=2 "
            + "can(1)=true");
        run(begun("1 1000 | *") + "can(0)=false can(1001)=false can(-1)=false can(MIN)=false can(MAX)=false can(2)=false "
            + "can(999)=false can(1)=true can(1000)=true can(257)=false can(65537)=false");
        run("can(1)=false name(1)=1 can(1)=false make()=0 can(1)=false begin(1)=false can(1)=false begin(0)=true can(1)=true");
    }

    private static void next() {
        sentence("The k-th name (from 0) of those that could come next, in their order by number; NONE when there is none such.");
        run(begun("9 4 | 1000 | 4 | 1 |") + "next(0)=1 next(1)=4 next(2)=9 next(3)=1000 next(4)=NONE next(3)=1000 next(0)=1 "
            + "next(-1)=NONE next(5)=NONE next(255)=NONE next(256)=NONE next(MIN)=NONE next(MAX)=NONE");
        run(begun("5 6 3 2 | | ? , *") + "next(0)=5 next(1)=NONE read(5)=1 next(0)=2 next(1)=3 next(2)=5 next(3)=6 "
            + "next(4)=NONE read(6)=2 next(0)=5 next(1)=NONE");
        run(begun("7 ?") + "next(0)=7 next(1)=NONE read(7)=1 next(0)=NONE back()=7 read(8)=1 next(0)=NONE back()=8 next(0)=7");
        run("next(0)=NONE name(1)=1 next(0)=NONE make()=0 next(0)=NONE begin(1)=false next(0)=NONE begin(0)=true next(0)=1");
    }

    private static void back() {
        sentence("The last name that was read is taken back.");
        run(begun("1 2 | * 1 ,") + "read(2)=1 read(1)=2 isWhole()=true read(7)=3 isWhole()=false " + comes() + "back()=7 "
            + "isWhole()=true " + comes(1, 2) + "back()=1 isWhole()=false read(2)=2 isWhole()=false back()=2 read(1)=2 "
            + "isWhole()=true");
        run(begun("1 2 , 3 ,") + "read(1)=1 read(2)=2 read(3)=3 isWhole()=true back()=3 isWhole()=false " + comes(3)
            + "back()=2 " + comes(2) + "back()=1 " + comes(1) + "read(1)=1 " + comes(2));
        sentence("Answers it; NONE when there is none.");
        run("back()=NONE name(1)=1 back()=NONE make()=0 back()=NONE begin(0)=true back()=NONE read(1)=1 read(1000)=2 "
            + "read(0)=NONE back()=1000 back()=1 back()=NONE back()=NONE read(5)=1 read(6)=2 back()=6 read(7)=2 back()=7 "
            + "back()=5 back()=NONE");
        run(begun("1 *") + "read(1)=1 read(1)=2 begin(0)=true back()=NONE read(1)=1 begin(1)=false back()=1 back()=NONE");
    }

    // ---- the document itself

    /** What stands between "Terms" and "Not promised", sentence by sentence. */
    private static List<String> sentencesOfTheDocument() throws IOException {
        List<String> all = new ArrayList<>();
        boolean inside = false;
        for (String line : Files.readAllLines(DOCUMENT)) {
            if (line.startsWith("#")) {
                inside = line.equals("## Terms") || line.startsWith("## Promise ");
            } else if (inside && !line.isBlank()) {
                all.addAll(List.of(line.replaceFirst("^`[^`]*`: ", "").split("(?<=\\.) (?=[A-Z])")));
            }
        }
        return all;
    }

    private static void noSentenceIsLeftOut() throws IOException {
        if (!Files.isReadable(DOCUMENT)) {
            System.out.println("(" + DOCUMENT + " is not here: the sentences are not held against it)");
            return;
        }
        sentence = "the sentences of the document";
        List<String> want = sentencesOfTheDocument();
        for (int i = 0; i < Math.max(want.size(), told.size()); i++) {
            String has = i < told.size() ? told.get(i) : "no sentence";
            String due = i < want.size() ? want.get(i) : "no sentence";
            checks++;
            if (!has.equals(due)) {
                fault("sentence " + i + " is '" + has + "', in the document '" + due + "'");
            }
        }
    }
}
