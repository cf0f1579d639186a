import java.io.IOException;
import java.lang.reflect.InvocationTargetException;
import java.lang.reflect.Method;
import java.nio.charset.StandardCharsets;
import java.nio.file.Files;
import java.nio.file.Path;
import java.util.Arrays;
import java.util.Comparator;
import java.util.LinkedHashMap;
import java.util.Map;
import java.util.regex.Matcher;
import java.util.regex.Pattern;

/**
 * Runs the tests of boundary cases, each with the sentence of the document that names the case; looks
 * whether each sentence stands in the document, and whether each refusal that it tells has a test.
 */
public final class BoundaryTest {
    private static final Class<?>[] GROUPS = {EdgesOfTokens.class, EdgesOfFaults.class, EdgesOfTape.class,
        EdgesOfSeries.class, EdgesOfTables.class, EdgesOfQuestions.class, EdgesOfFreeTable.class, EdgesOfActs.class,
        EdgesWithoutSize.class, EdgesOfRefusals.class};
    private static final Pattern REFUSAL =
        Pattern.compile("NONE|false|NoSuchElementException|\\b100\\b|\\b101\\b|at most|more than|below 0|FAULT");
    private static final int PROMISES = 31;

    private final Map<String, String> sections = new LinkedHashMap<>();
    private final Map<String, boolean[]> quoted = new LinkedHashMap<>();
    private int passed;
    private int failed;

    public static void main(String[] args) throws IOException, IllegalAccessException {
        BoundaryTest test = new BoundaryTest();
        test.readDocument(Path.of("../shared/DOC.md"));
        for (Class<?> group : GROUPS) {
            test.runGroup(group);
        }
        System.out.println(test.passed + " tests of sentences passed");
        test.lookForRefusalsWithoutTest();
        System.out.println(test.passed + " with looks for sentences without one, " + test.failed + " failed");
        if (test.failed != 0) {
            System.exit(1);
        }
    }

    private void readDocument(Path path) throws IOException {
        String text = Files.readString(path, StandardCharsets.UTF_8);
        for (String part : text.split("(?m)^## ")) {
            int end = part.indexOf('\n');
            String heading = part.substring(0, end < 0 ? part.length() : end).split(":")[0].trim();
            // The face of a promise tells names alone; what is promised stands behind it.
            String words = part.substring(Math.max(end, 0)).replaceFirst("(?s)^\\s*`[^`]*`:", "");
            words = words.replaceAll("\\s+", " ");
            sections.put(heading, words);
            quoted.put(heading, new boolean[words.length()]);
        }
    }

    private void runGroup(Class<?> group) throws IllegalAccessException {
        Method[] methods = group.getDeclaredMethods();
        Arrays.sort(methods, Comparator.comparing(Method::getName));
        for (Method method : methods) {
            Sentence sentence = method.getAnnotation(Sentence.class);
            if (sentence != null) {
                String name = sentence.of() + ", '" + sentence.says() + "': " + group.getName() + "." + method.getName();
                count(name, markQuoted(sentence) && holds(method));
            }
        }
    }

    private boolean markQuoted(Sentence sentence) {
        String section = sections.get(sentence.of());
        int at = section == null ? -1 : section.indexOf(sentence.says());
        if (at < 0) {
            System.out.println("these words do not stand in the document");
            return false;
        }
        Arrays.fill(quoted.get(sentence.of()), at, at + sentence.says().length(), true);
        return true;
    }

    private static boolean holds(Method method) throws IllegalAccessException {
        Check check = new Check();
        try {
            method.invoke(null, check);
        } catch (InvocationTargetException e) {
            System.out.println("threw " + e.getCause());
            return false;
        }
        return check.looked() > 0 && check.wrong() == 0;
    }

    private void count(String name, boolean good) {
        if (good) {
            passed++;
        } else {
            failed++;
            System.out.println("FAILED: " + name);
        }
    }

    private void lookForRefusalsWithoutTest() {
        for (int k = 1; k <= PROMISES; k++) {
            boolean any = false;
            for (boolean marked : quoted.getOrDefault("Promise " + k, new boolean[0])) {
                any |= marked;
            }
            count("Promise " + k + " has a test", any);
        }
        sections.forEach((heading, words) -> {
            Matcher refusal = REFUSAL.matcher(words);
            boolean promised = heading.startsWith("Promise ") || heading.equals("Terms");
            while (promised && refusal.find()) {
                String around = words.substring(refusal.start(), Math.min(words.length(), refusal.end() + 40));
                count(heading + ": '" + around + "' has a test", quoted.get(heading)[refusal.start()]);
            }
        });
    }
}
