import java.io.IOException;
import java.lang.reflect.InvocationTargetException;
import java.lang.reflect.Method;
import java.nio.file.Files;
import java.nio.file.Path;
import java.util.ArrayList;
import java.util.HashMap;
import java.util.List;
import java.util.Map;
import java.util.regex.Matcher;
import java.util.regex.Pattern;

/**
 * Runs src/test/edges.txt: the sentences of the document that name an edge, each with calls and the answers that are
 * due. How the file is written stands in its head. Is called in the project's folder.
 */
public final class EdgesTest {
    private static final Path EDGES = Path.of("src/test/edges.txt");
    private static final Path DOCUMENT = Path.of("../shared/DOC.md");
    private static final int MOST_CALLS = 512;
    private static final int PROMISES = 40;
    private static final Pattern CALL = Pattern.compile("(\\w+)\\((.*)\\) (\\S+)");
    private static final Map<String, Method> FACE = new HashMap<>();

    private static final Due due = new Due("EdgesTest");

    private String where = "";
    private WordBench bench;
    private int calls;
    // The same calls but those that were refused.
    private WordBench spared;
    private int refused;
    // The model that long runs are compared with must know the edges, too.
    private PlainBench model;

    public static void main(String[] args) throws Exception {
        for (Method m : WordBench.class.getDeclaredMethods()) {
            if (java.lang.reflect.Modifier.isPublic(m.getModifiers())) {
                FACE.put(m.getName(), m);
            }
        }
        new EdgesTest().run(Files.readAllLines(EDGES));
        due.end();
    }

    private void run(List<String> lines) throws Exception {
        boolean atHand = Files.exists(DOCUMENT);
        if (!atHand) {
            System.out.println("EdgesTest: no " + DOCUMENT + ": whether it says the sentences is not looked at");
        }
        String document = atHand ? plain(Files.readString(DOCUMENT)) : "";
        String section = document;
        int promises = 0;
        begin();
        for (String line : lines) {
            if (line.startsWith("## Promise ")) {
                promises++;
                due.is(line + " is the next promise", line.startsWith("## Promise " + promises + ": ") ? 1 : 0, 1);
                section = sectionOf(document, line);
            } else if (line.startsWith("> ")) {
                end();
                begin();
                where = line.substring(2);
                due.is("the document says: " + where, !atHand || section.contains(plain(where)) ? 1 : 0, 1);
            } else if (line.equals("new")) {
                end();
                begin();
            } else if (!line.isBlank() && !line.startsWith("#")) {
                callAll(line);
            }
        }
        end();
        due.is("promises", promises, PROMISES);
    }

    /** What the document says under a heading; nothing, if it doesn't have it. */
    private static String sectionOf(String document, String heading) {
        int from = document.indexOf(heading + " ");
        int to = from < 0 ? -1 : document.indexOf(" ## ", from);
        return from < 0 ? "" : to < 0 ? document.substring(from) : document.substring(from, to);
    }

    private static String plain(String text) {
        return text.replaceAll("\\s+", " ");
    }

    private void begin() {
        bench = new WordBench();
        spared = new WordBench();
        model = new PlainBench();
        calls = 0;
        refused = 0;
    }

    private void end() throws Exception {
        if (refused > 0) {
            due.same(where + ": a refused call changes nothing", held(bench), held(spared));
        }
        due.is(where + ": " + calls + " calls are few enough", calls <= MOST_CALLS ? 1 : 0, 1);
    }

    // ---- calls

    private void callAll(String line) throws Exception {
        Matcher m = CALL.matcher(line);
        if (!m.matches() || !FACE.containsKey(m.group(1))) {
            throw new IOException("this is no call: " + line);
        }
        Method call = FACE.get(m.group(1));
        List<long[]> each = new ArrayList<>();
        each.add(new long[0]);
        for (String argument : m.group(2).split(", ")) {
            each = spread(each, numbers(argument));
        }
        boolean throwing = m.group(3).startsWith("I");
        long[] answers = throwing ? new long[1] : numbers(m.group(3));
        if (answers.length != 1 && answers.length != each.size()) {
            throw new IOException(each.size() + " calls, but " + answers.length + " answers: " + line);
        }
        for (int k = 0; k < each.size(); k++) {
            String want = throwing ? m.group(3) : "" + answers[answers.length == 1 ? 0 : k];
            callOnce(call, values(call, each.get(k)), want);
        }
    }

    private static List<long[]> spread(List<long[]> each, long[] more) {
        List<long[]> spread = new ArrayList<>();
        for (long[] before : each) {
            for (long number : more) {
                long[] one = java.util.Arrays.copyOf(before, before.length + 1);
                one[before.length] = number;
                spread.add(one);
            }
        }
        return spread;
    }

    private static long[] numbers(String text) {
        int range = text.indexOf("..");
        if (range < 0) {
            return java.util.Arrays.stream(text.split("\\|")).mapToLong(Long::decode).toArray();
        }
        long first = Long.decode(text.substring(0, range));
        long last = Long.decode(text.substring(range + 2));
        long[] numbers = new long[(int) Math.abs(last - first) + 1];
        for (int k = 0; k < numbers.length; k++) {
            numbers[k] = first <= last ? first + k : first - k;
        }
        return numbers;
    }

    private static Object[] values(Method call, long[] numbers) {
        Object[] values = new Object[numbers.length];
        for (int k = 0; k < values.length; k++) {
            boolean isLong = call.getParameterTypes()[k] == long.class;
            values[k] = isLong ? (Object) numbers[k] : (Object) Math.toIntExact(numbers[k]);
        }
        return values;
    }

    private void callOnce(Method call, Object[] values, String want) throws Exception {
        calls++;
        String got = answer(call, bench, values);
        String told = java.util.Arrays.toString(values);
        due.same(where + ": " + call.getName() + told, got, want);
        Method inModel = PlainBench.class.getDeclaredMethod(call.getName(), call.getParameterTypes());
        due.same("the model, " + where + ": " + call.getName() + told, answer(inModel, model, values), want);
        if (got.startsWith("-") && !call.getName().equals("law") || got.startsWith("I")) {
            refused++;
        } else {
            answer(call, spared, values);
        }
    }

    private static String answer(Method call, Object on, Object... values) throws Exception {
        try {
            return call.invoke(on, values).toString();
        } catch (InvocationTargetException thrown) {
            return thrown.getCause().getClass().getSimpleName();
        }
    }

    // ---- what is held

    /** All that an object holds, as its calls tell it. */
    private String held(WordBench x) throws Exception {
        StringBuilder held = new StringBuilder();
        for (int place = 0; place < 12; place++) {
            int many = look(x, held, place);
            for (int i = 0; i < many; i++) {
                held.append(' ').append(told(x, "word", place, i));
            }
        }
        for (int d = 0; d < 6; d++) {
            String heft = told(x, "heft", d);
            held.append("\nshelf ").append(d).append(':').append(heft);
            // -12: it is a ROW.
            String element = heft.equals("-12") ? told(x, "element", d, 0) : "I";
            for (int i = 1; !element.startsWith("I"); i++) {
                held.append(' ').append(element);
                element = told(x, "element", d, i);
            }
        }
        return held.toString();
    }

    private int look(WordBench x, StringBuilder held, int place) throws Exception {
        String kind = told(x, "look", place, 0);
        held.append("\nplace ").append(place).append(':').append(kind);
        if (kind.startsWith("-")) {
            return 0;
        }
        held.append(' ').append(told(x, "look", place, 1)).append(' ').append(told(x, "look", place, 2));
        return Integer.parseInt(told(x, "look", place, 3));
    }

    private String told(WordBench x, String call, Object... values) throws Exception {
        if (x == bench) {
            calls++;
        }
        return answer(FACE.get(call), x, values);
    }
}
