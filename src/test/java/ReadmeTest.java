import java.io.IOException;
import java.lang.reflect.Method;
import java.lang.reflect.Modifier;
import java.nio.file.Files;
import java.nio.file.Path;
import java.util.ArrayList;
import java.util.List;
import java.util.TreeSet;
import java.util.regex.Matcher;
import java.util.regex.Pattern;

/** What README.md says of the class's use: a page that tells something else than the class does is no help. */
public final class ReadmeTest {
    private static final Pattern EXAMPLE = Pattern.compile("x\\.(\\w+)\\((.*)\\); +// (-?\\w+): .*");
    private static final Pattern QUOTED = Pattern.compile("\"(.*)\"");
    private static final Pattern CALL = Pattern.compile("\\| `(\\w+)\\((.*)\\)` \\|.*");
    private static final Pattern KIND = Pattern.compile("\\| (\\d+) \\| ([^|]*) \\|");
    private static final Pattern RULE = Pattern.compile("\\| (\\d+) \\| (\\w+) \\|([^|]*)\\|([^|]*)\\|");

    private static int wrong = 0;

    public static void main(String[] args) throws IOException, ReflectiveOperationException {
        List<String> lines = Files.readAllLines(Path.of("README.md"));
        example(lines);
        calls(lines);
        kinds(lines);
        rules(lines);
        System.out.println(wrong == 0 ? "README.md tells what the class does" : wrong + " lines are wrong");
        if (wrong != 0) {
            System.exit(1);
        }
    }

    private static void due(String what, String got, String want) {
        if (!got.equals(want)) {
            wrong++;
            System.out.println(what + ": " + got + ", due is " + want);
        }
    }

    /** The parts of each line that is wholly of a form. */
    private static List<Matcher> linesOf(Pattern form, List<String> lines) {
        List<Matcher> found = new ArrayList<>();
        for (String line : lines) {
            Matcher matcher = form.matcher(line);
            if (matcher.matches()) {
                found.add(matcher);
            }
        }
        return found;
    }

    private static int countOf(String parameters) {
        return parameters.isEmpty() ? 0 : parameters.split(",").length;
    }

    private static Method called(String name, int parameters) {
        for (Method method : ProofChecker.class.getMethods()) {
            if (method.getName().equals(name) && method.getParameterCount() == parameters) {
                return method;
            }
        }
        throw new IllegalStateException("the class has no " + name + " of " + parameters);
    }

    private static void example(List<String> lines) throws ReflectiveOperationException {
        ProofChecker x = new ProofChecker();
        List<Matcher> examples = linesOf(EXAMPLE, lines);
        TreeSet<String> shown = new TreeSet<>();
        for (Matcher line : examples) {
            Object[] numbers = new Object[countOf(line.group(2))];
            for (int i = 0; i < numbers.length; i++) {
                numbers[i] = Integer.valueOf(line.group(2).split(", ")[i]);
            }
            Object answer = called(line.group(1), numbers.length).invoke(x, numbers);
            due(line.group(), answer.toString(), line.group(3));
            shown.add(line.group(1));
            Matcher quoted = QUOTED.matcher(line.group());
            if (quoted.find()) {
                due(line.group(), latest(x), quoted.group(1));
            }
        }
        int written = 0;
        for (String line : lines) {
            written += line.startsWith("x.") ? 1 : 0;
        }
        due("lines of the example that were run", "" + examples.size(), "" + written);
        due("calls in the example", shown.toString(),
                "[at, axiom, broken, check, concludes, drop, name, premise, row, rows, sentence, size, states, triple]");
    }

    private static String latest(ProofChecker x) {
        StringBuilder text = new StringBuilder();
        for (int i = 0; x.at(i) != -2; i++) {
            text.append((char) x.at(i));
        }
        return text.toString();
    }

    private static void calls(List<String> lines) {
        TreeSet<String> told = new TreeSet<>();
        for (Matcher line : linesOf(CALL, lines)) {
            told.add(line.group(1) + " " + countOf(line.group(2)));
        }
        TreeSet<String> there = new TreeSet<>();
        for (Method method : ProofChecker.class.getDeclaredMethods()) {
            if (Modifier.isPublic(method.getModifiers())) {
                there.add(method.getName() + " " + method.getParameterCount());
            }
        }
        due("the list of calls", told.toString(), there.toString());
    }

    private static String told(ProofChecker x, int row) {
        x.sentence(row);
        return latest(x);
    }

    private static void kinds(List<String> lines) {
        List<Matcher> kinds = linesOf(KIND, lines);
        due("how many kinds", "" + kinds.size(), "12");
        for (int kind = 1; kind <= kinds.size(); kind++) {
            Matcher line = kinds.get(kind - 1);
            due("the kind's place", line.group(1), "" + kind);
            if (kind <= 10) {
                ProofChecker x = new ProofChecker();
                String worded = line.group(2).replace("A", "500").replace("B", "600");
                due(line.group(), "1. " + worded + ", by axiom.", told(x, x.row(0, x.axiom(kind, 500, 600), 0)));
            }
        }
    }

    private static void rules(List<String> lines) {
        List<Matcher> rules = linesOf(RULE, lines);
        due("how many rules", "" + rules.size(), "18");
        for (int rule = 0; rule < rules.size(); rule++) {
            Matcher line = rules.get(rule);
            due("the rule's place", line.group(1), "" + rule);
            ProofChecker x = new ProofChecker();
            int first = x.row(0, x.axiom(1, 5, 5), 0);
            int row = x.row(rule, x.triple(5, 6, 7), 0);
            String told = told(x, row);
            due(line.group(), ", by " + line.group(2) + ".", told.substring(told.indexOf(',')));
            int takes = 0;
            while (takes < 4 && x.premise(row, first) > 0) {
                takes++;
            }
            due(line.group() + ": premises", "" + countOf(line.group(3).trim()), "" + takes);
        }
    }
}
