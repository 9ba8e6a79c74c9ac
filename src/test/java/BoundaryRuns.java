import java.io.IOException;
import java.lang.reflect.Method;
import java.nio.file.Files;
import java.nio.file.Path;
import java.util.ArrayList;
import java.util.BitSet;
import java.util.List;
import java.util.Map;
import java.util.Set;
import java.util.TreeMap;
import java.util.TreeSet;
import java.util.regex.Matcher;
import java.util.regex.Pattern;
import java.util.stream.Stream;

/**
 * Plays the runs of src/test/runs, each of which stands under the sentence of the document whose boundary it looks at
 * (src/test/runs/README.md tells how they are written). Behind each call that is refused, a twin to which that call was
 * not made is asked the same: what is refused changes nothing. At the end, each refusal that a promise names must have
 * been seen, and no other, and all that the document says from its terms on must stand above some run.
 */
public final class BoundaryRuns {
    private static final Path RUNS = Path.of("src/test/runs");
    private static final Path DOCUMENT = Path.of("../shared/DOC.md");
    private static final int MOST_CALLS = 512;
    private static final Map<String, Long> NAMES = Map.of("NONE", -1L, "UNKNOWN", -100001L, "OUTSIDE", -100002L,
        "NOT", -100003L, "FULL", -100004L, "MIN", (long) Integer.MIN_VALUE, "MAX", (long) Integer.MAX_VALUE);
    private static final Map<String, Method> CALLS = new TreeMap<>();
    private static final Map<String, Set<String>> SEEN = new TreeMap<>();
    // Which signs of the document, as plain() leaves it, stand above a run.
    private static final BitSet CITED = new BitSet();
    private static final Pattern ASKS_NOTHING = Pattern.compile(
        "|text|Words in capitals are told where they come first\\.|(Ahead of the calls [^.]*\\. ?)+");

    private static int wrong = 0;
    private static int runs = 0;
    private static int answers = 0;
    private static int refusals = 0;

    /** One call with the answer that is due, and the line that tells it. */
    record Step(String name, long[] numbers, long want, String line) {
        long on(SilkHouse x) throws ReflectiveOperationException {
            Method call = CALLS.get(name);
            Object[] given = new Object[numbers.length];
            for (int k = 0; k < given.length; k++) {
                boolean wide = call.getParameterTypes()[k] == long.class;
                given[k] = wide ? (Object) numbers[k] : (Object) Math.toIntExact(numbers[k]);
            }
            return ((Number) call.invoke(x, given)).longValue();
        }

        String told() {
            StringBuilder all = new StringBuilder(name).append('(');
            for (int k = 0; k < numbers.length; k++) {
                all.append(k == 0 ? "" : ", ").append(numbers[k]);
            }
            return all.append(')').toString();
        }
    }

    /** A run of calls on a new object, while its lines are read. */
    static final class Run {
        final String head;
        final List<Step> steps = new ArrayList<>();
        int textLength = 0;
        int rules = 0;

        Run(String head) {
            this.head = head;
        }

        void add(String line, String name, long want, long... numbers) {
            steps.add(new Step(name, numbers, want, line));
            boolean refused = refusalOf(want) != null;
            if (name.equals("rule") && !refused) {
                textLength = 0;
                rules += want >= 0 ? 1 : 0;
            } else if (name.equals("feed") && !refused) {
                textLength = (int) want;
            }
        }

        void addText(String line, String text) {
            for (int at = 0; at < text.length(); at += 8) {
                int n = Math.min(8, text.length() - at);
                long bytes = 0;
                for (int k = 0; k < n; k++) {
                    bytes = bytes << 8 | text.charAt(at + k);
                }
                add(line, "feed", textLength + n, n, bytes);
            }
        }
    }

    private static void complain(String what) {
        wrong++;
        System.out.println(what);
    }

    private static String refusalOf(long answer) {
        for (String name : List.of("UNKNOWN", "OUTSIDE", "NOT", "FULL")) {
            if (NAMES.get(name) == answer) {
                return name;
            }
        }
        return null;
    }

    // ---- how a run is written

    private static long number(String word) {
        if (NAMES.containsKey(word)) {
            return NAMES.get(word);
        }
        return word.startsWith("0x") ? Long.parseUnsignedLong(word.substring(2), 16) : Long.parseLong(word);
    }

    /** What stands in brackets; {..*n} stands for n times, {e9} for the byte of that number. */
    private static String textIn(String line) {
        String inside = line.substring(line.indexOf('[') + 1, line.lastIndexOf(']'));
        Matcher parts = Pattern.compile("\\{([^{}*]+)(?:\\*(\\d+))?}").matcher(inside);
        return parts.replaceAll(m -> Matcher.quoteReplacement(
            signs(m.group(1)).repeat(m.group(2) == null ? 1 : Integer.parseInt(m.group(2)))));
    }

    private static String signs(String part) {
        return part.matches("\\p{XDigit}{2}") ? "" + (char) Integer.parseInt(part, 16) : part;
    }

    private static void readLine(Run run, String line) {
        String[] words = line.split(" *\\[")[0].split(" +");
        switch (words[0]) {
            case "text" -> run.addText(line, textIn(line));
            case "law" -> {
                run.addText(line, textIn(line));
                run.add(line, "rule", number(words[3]), number(words[1]));
            }
            case "good" -> {
                run.addText(line, textIn(line));
                run.add(line, "rule", run.rules, 0);
                run.add(line, "fault", -1);
            }
            case "bad" -> {
                run.addText(line, textIn(line));
                run.add(line, "rule", -10 - number(words[1]), 0);
                run.add(line, "fault", number(words[2]));
                run.add(line, "count", 0, 9);
                run.add(line, "count", run.rules, 5);
            }
            default -> readCall(run, line, List.of(words));
        }
    }

    /** [times *] call numbers = answers; a number * goes from 0 on, answer by answer; 'n ..' goes on from n. */
    private static void readCall(Run run, String line, List<String> words) {
        int times = words.size() > 1 && words.get(1).equals("*") && words.get(0).matches("\\d+") ? (int) number(words.get(0)) : 0;
        int equals = words.indexOf("=");
        List<String> call = words.subList(times > 0 ? 2 : 0, equals);
        List<String> due = words.subList(equals + 1, words.size());
        boolean rising = due.get(due.size() - 1).equals("..");
        int rounds = times > 0 ? times : due.size();
        for (int k = 0; k < rounds; k++) {
            long[] numbers = new long[call.size() - 1];
            for (int n = 0; n < numbers.length; n++) {
                numbers[n] = call.get(n + 1).equals("*") ? k : number(call.get(n + 1));
            }
            long want = rising ? number(due.get(0)) + k : number(due.get(due.size() == 1 ? 0 : k));
            run.add(line, call.get(0), want, numbers);
        }
    }

    // ---- how a run is played

    private static void play(Run run) throws ReflectiveOperationException {
        runs++;
        SilkHouse x = new SilkHouse();
        for (Step step : run.steps) {
            answers++;
            long got = step.on(x);
            String refusal = refusalOf(got);
            if (refusal != null) {
                SEEN.computeIfAbsent(step.name, name -> new TreeSet<>()).add(refusal);
            }
            if (got != step.want) {
                complain(run.head + ": " + step.told() + " answered " + got + ", due is " + step.want + " (" + step.line + ")");
            }
        }
        if (run.steps.size() > MOST_CALLS) {
            complain(run.head + ": has " + run.steps.size() + " calls");
        }
        for (int k = 0; k < run.steps.size(); k++) {
            if (refusalOf(run.steps.get(k).want) != null && k < MOST_CALLS - 1) {
                refusals++;
                compareTwins(run, k);
            }
        }
    }

    /** Asks two objects the same, one to which the k-th call was made and one to which it was not. */
    private static void compareTwins(Run run, int k) throws ReflectiveOperationException {
        List<Step> questions = questions(told(run, k));
        int most = MOST_CALLS - k - 1;
        for (int from = 0; from < questions.size(); from += most) {
            compare(run, k, questions.subList(from, Math.min(questions.size(), from + most)));
        }
        List<Step> further = furtherCalls();
        compare(run, k, further.subList(0, Math.min(further.size(), most)));
    }

    private static void compare(Run run, int k, List<Step> questions) throws ReflectiveOperationException {
        SilkHouse without = told(run, k);
        SilkHouse with = told(run, k);
        run.steps.get(k).on(with);
        for (Step question : questions) {
            long want = question.on(without);
            long got = question.on(with);
            if (got != want) {
                complain(run.head + ": behind " + run.steps.get(k).told() + ", which is refused, " + question.told()
                    + " answered " + got + ", else " + want);
            }
        }
    }

    private static SilkHouse told(Run run, int calls) throws ReflectiveOperationException {
        SilkHouse x = new SilkHouse();
        for (Step step : run.steps.subList(0, calls)) {
            step.on(x);
        }
        return x;
    }

    private static void ask(List<Step> all, String name, long... numbers) {
        all.add(new Step(name, numbers, 0, ""));
    }

    /** Everything that can be asked of an object. */
    private static List<Step> questions(SilkHouse x) {
        List<Step> all = new ArrayList<>();
        int now = x.count(0);
        Set<Integer> days = new TreeSet<>(List.of(0, 1, 2, 3, Math.max(0, now - 1), now, Math.min(now + 1, 3000), 3000));
        for (int what = 0; what <= 10; what++) {
            ask(all, "count", what);
        }
        ask(all, "fault");
        for (int b = 0; b < x.count(1); b++) {
            askBale(all, b, days);
        }
        for (int s = 0; s < x.count(2); s++) {
            for (int what = 0; what <= 8; what++) {
                ask(all, "told", s, what);
            }
        }
        for (int p = 0; p < x.count(6); p++) {
            for (int what = 0; what <= 6; what++) {
                ask(all, "paper", p, what);
            }
        }
        for (int day : days) {
            askDay(all, day);
        }
        for (int r = 0; r < x.count(5); r++) {
            for (int n = 0; n < 12 * 8; n++) {
                ask(all, "letter", 100 * r + n / 8, n % 8);
            }
        }
        askOvensAndHouses(all);
        return all;
    }

    private static void askBale(List<Step> all, int b, Set<Integer> days) {
        for (int n = 0; n < 9; n++) {
            ask(all, "ratio", b, n / 3, n % 3);
        }
        for (int day : days) {
            ask(all, "state", b, day);
            ask(all, "lawful", b, day, 0);
            ask(all, "lawful", b, day, 1);
            ask(all, "named", b, day);
        }
        for (int n = 0; n < 4; n++) {
            ask(all, "span", b, n);
            ask(all, "size", b, n);
            ask(all, "cause", b, n - 1);
            ask(all, "odd", b, n);
            ask(all, "needed", b, 1 + 33 * n);
            ask(all, "cheat", b, 250 * n, 250 * n, 250 * n);
        }
        ask(all, "twist", b);
    }

    private static void askDay(List<Step> all, int day) {
        for (int n = 0; n < 8; n++) {
            ask(all, "force", n, day);
            ask(all, "error", n / 2, day, n % 2);
        }
        ask(all, "stood", day, 0);
        ask(all, "stood", day, 1);
    }

    private static void askOvensAndHouses(List<Step> all) {
        for (int m = 1; m <= 3; m++) {
            for (int i = -1; i <= 8; i++) {
                ask(all, "order", m, i);
            }
        }
        for (int what = 0; what <= 2; what++) {
            ask(all, "houses", what);
        }
    }

    /** Calls that bring out what no question does: THE TEXT, and the numbers that come next. */
    private static List<Step> furtherCalls() {
        List<Step> all = new ArrayList<>();
        ask(all, "rule", 0);
        ask(all, "fault");
        for (int name = 0; name <= 5; name++) {
            ask(all, "force", name, 0);
        }
        ask(all, "feed", 1, ' ');
        ask(all, "feed", 8, 0x6c65742066656520L);
        ask(all, "rule", 0);
        ask(all, "fault");
        ask(all, "bale", 500);
        ask(all, "skein", 0, 0, 0, 1000, 900, 0, 0);
        ask(all, "lose", 0);
        ask(all, "test", 0, 10, 9);
        ask(all, "thread", 0, 9);
        ask(all, "size", 0, 0);
        ask(all, "turns", 0, 9);
        ask(all, "twist", 0);
        ask(all, "load", 9);
        ask(all, "order", 2, -1);
        ask(all, "empty");
        ask(all, "shared", 9, 9, 9, 9);
        ask(all, "houses", 2);
        ask(all, "bill", 0, 2);
        ask(all, "certify", 0);
        ask(all, "undo", 0);
        ask(all, "stood", 0, 1);
        ask(all, "go", 1);
        ask(all, "count", 7);
        ask(all, "count", 10);
        return all;
    }

    // ---- what the document says

    private static String plain(String text) {
        return text.replaceAll("[`\\s]+", " ").trim();
    }

    /** Marks what a run stands under; whether the document says it. */
    private static boolean cite(String said, String document) {
        int first = document.indexOf(said);
        for (int at = first; at >= 0; at = document.indexOf(said, at + 1)) {
            CITED.set(at, at + said.length());
        }
        return first >= 0;
    }

    /** From the terms on, each word of the document must stand above a run, but for those that ask for nothing. */
    private static void checkCitations(String document) {
        int end = document.indexOf("## Not promised");
        int at = CITED.nextClearBit(document.indexOf("## Terms"));
        while (at < end) {
            int next = CITED.nextSetBit(at);
            int to = next < 0 ? end : Math.min(next, end);
            String left = document.substring(at, to).replaceAll("=+ \\d", "").trim();
            if (!ASKS_NOTHING.matcher(left).matches()) {
                complain("no run stands under: " + left);
            }
            at = CITED.nextClearBit(to);
        }
    }

    private static void playFile(Path file, String document, Set<String> promises)
            throws IOException, ReflectiveOperationException {
        String promise = "";
        Run run = null;
        int at = 0;
        for (String line : Files.readAllLines(file)) {
            at++;
            if (line.startsWith("== ")) {
                promise = line.substring(3);
                promises.add(promise);
                if (!cite("## " + promise, document)) {
                    complain(file + ":" + at + ": the document has no " + promise);
                }
            } else if (line.startsWith("-- ")) {
                String sentence = plain(line.substring(3).split(" // ")[0]);
                if (!cite(sentence, document)) {
                    complain(file + ":" + at + ": the document does not say: " + sentence);
                }
                if (run != null) {
                    play(run);
                }
                run = new Run(file.getFileName() + ":" + at + ", " + promise + ", " + line.substring(3));
            } else if (!line.isBlank() && !line.startsWith("#")) {
                readLine(run, line);
            }
        }
        if (run != null) {
            play(run);
        }
    }

    private static void checkRefusals(String document, Set<String> promises) {
        Matcher sections = Pattern.compile("## (Promise \\d+: (.*))\n\n(.*)\n").matcher(document);
        while (sections.find()) {
            if (!promises.contains(sections.group(1))) {
                complain(sections.group(1) + " has no runs");
            }
            Set<String> named = new TreeSet<>();
            Matcher words = Pattern.compile("\\b(UNKNOWN|OUTSIDE|NOT|FULL)\\b").matcher(sections.group(3));
            while (words.find()) {
                named.add(words.group());
            }
            Set<String> seen = SEEN.getOrDefault(sections.group(2), Set.of());
            if (!named.equals(new TreeSet<>(seen))) {
                complain(sections.group(1) + " names " + named + ", the runs saw " + seen);
            }
        }
    }

    public static void main(String[] args) throws IOException, ReflectiveOperationException {
        for (Method call : SilkHouse.class.getMethods()) {
            if (call.getDeclaringClass() == SilkHouse.class) {
                CALLS.put(call.getName(), call);
            }
        }
        String document = Files.readString(DOCUMENT);
        Set<String> promises = new TreeSet<>();
        List<Path> files;
        try (Stream<Path> all = Files.list(RUNS)) {
            files = all.filter(file -> file.toString().endsWith(".txt")).sorted().toList();
        }
        for (Path file : files) {
            playFile(file, plain(document), promises);
        }
        checkRefusals(document, promises);
        checkCitations(plain(document));
        System.out.println(runs + " runs, " + answers + " answers, " + refusals + " refused calls held against a twin, "
            + wrong + " are not as due");
        if (wrong != 0 || runs == 0) {
            System.exit(1);
        }
    }
}
