import java.lang.reflect.InvocationTargetException;
import java.lang.reflect.Method;
import java.util.Arrays;
import java.util.Comparator;
import java.util.List;
import java.util.Set;
import java.util.stream.Collectors;
import java.util.stream.IntStream;

/** Runs the tests of a class, each of which bears its sentence, and sees that no sentence is without one. */
final class Sentences {
    private Sentences() {
    }

    static void ofPromises(Class<?> tests, int first, int last) throws Exception {
        run(tests, IntStream.rangeClosed(first, last).mapToObj(number -> "Promise " + number).toList());
    }

    static void ofTerms(Class<?> tests, String... terms) throws Exception {
        run(tests, List.of(terms));
    }

    private static void run(Class<?> tests, List<String> parts) throws Exception {
        List<Method> methods = Arrays.stream(tests.getDeclaredMethods())
                .filter(method -> method.isAnnotationPresent(Sentence.class))
                .sorted(Comparator.comparing(Method::getName)).toList();
        for (Method method : methods) {
            run(method);
        }
        Set<String> tested = methods.stream().map(Sentences::sentence).collect(Collectors.toSet());
        Document document = Document.read();
        Set<String> said = parts.stream()
                .flatMap(part -> document.sentencesOf(part).stream().map(each -> part + ": " + each))
                .collect(Collectors.toSet());
        compare(tested, said, parts.size());
        Check.end();
    }

    private static void run(Method test) throws IllegalAccessException {
        int wrong = Check.wrong();
        int looked = Check.looked();
        test.setAccessible(true);
        try {
            test.invoke(null);
        } catch (InvocationTargetException e) {
            Check.due(test.getName(), "no exception", e.getCause());
        }
        Check.due(test.getName() + " looks at answers", true, Check.looked() > looked);
        if (Check.wrong() > wrong) {
            System.out.println("  of the test " + test.getName() + ", " + sentence(test));
        }
    }

    private static void compare(Set<String> tested, Set<String> said, int parts) {
        Check.due("the document has sentences in each part", true, said.size() >= parts);
        for (String sentence : said) {
            Check.due("a test of its own for: " + sentence, true, tested.contains(sentence));
        }
        for (String sentence : tested) {
            Check.due("in the document: " + sentence, true, said.contains(sentence));
        }
    }

    private static String sentence(Method test) {
        Sentence sentence = test.getAnnotation(Sentence.class);
        return sentence.of() + ": " + sentence.says();
    }
}
