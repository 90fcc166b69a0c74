import java.lang.reflect.Method;
import java.util.ArrayList;
import java.util.List;

/** Each promise and each term has tests of its edges that bear its name. */
public final class NamesTest {
    private static final Class<?>[] TESTS = {TermsEdgesTest.class, ScoreEdgesTest.class,
        SingersEdgesTest.class, PlanEdgesTest.class, HistoryEdgesTest.class, ToldEdgesTest.class};
    private static final String[] TERMS = {"score", "singers", "plans", "faults", "making", "texts",
        "history", "errors"};

    public static void main(String[] args) {
        Check check = new Check("NamesTest");
        List<String> names = names();
        for (String term : TERMS) {
            check.due("tests of " + term, bearing(names, term + "[A-Z].*") > 0 ? 1 : 0, 1);
        }
        for (int promise = 1; promise <= 25; promise++) {
            String name = "promise" + promise + "[A-Z].*";
            check.due("tests of promise " + promise, bearing(names, name) > 0 ? 1 : 0, 1);
        }
        check.end();
    }

    private static List<String> names() {
        List<String> names = new ArrayList<>();
        for (Class<?> tests : TESTS) {
            for (Method method : tests.getDeclaredMethods()) {
                if (Check.isTest(method)) {
                    names.add(method.getName());
                }
            }
        }
        return names;
    }

    private static int bearing(List<String> names, String pattern) {
        int number = 0;
        for (String name : names) {
            number += name.matches(pattern) ? 1 : 0;
        }
        return number;
    }
}
