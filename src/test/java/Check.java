import java.lang.reflect.Method;
import java.lang.reflect.Modifier;
import java.util.Arrays;
import java.util.Comparator;

/** What the tests share: comparing an answer with the due one, and making scores from texts. */
final class Check {
    private final String className;
    private String name;
    private int calls = 0;
    private int wrong = 0;

    Check(String className) {
        this.className = className;
        name = className;
    }

    /** Runs every test of a class: its static methods without arguments, so that none is forgotten. */
    void runAll(Class<?> tests) throws ReflectiveOperationException {
        Method[] methods = tests.getDeclaredMethods();
        Arrays.sort(methods, Comparator.comparing(Method::getName));
        for (Method method : methods) {
            if (isTest(method)) {
                name = className + "." + method.getName();
                int before = calls;
                method.invoke(null);
                due("the test asks something", calls > before ? 1 : 0, 1);
            }
        }
        name = className;
        end();
    }

    static boolean isTest(Method method) {
        int modifiers = method.getModifiers();
        return method.getParameterCount() == 0 && method.getReturnType() == void.class
            && Modifier.isStatic(modifiers) && !Modifier.isPrivate(modifiers) && !method.isSynthetic();
    }

    void due(String call, int got, int want) {
        calls++;
        if (got != want) {
            wrong++;
            if (wrong <= 20) {
                System.out.println(name + ": " + call + " answered " + got + ", due is " + want);
            }
        }
    }

    void end() {
        System.out.println(name + ": " + calls + " answers, " + wrong + " wrong");
        if (wrong != 0 || calls == 0) {
            System.exit(1);
        }
    }

    static void typeAll(LongTones choir, String text) {
        for (int i = 0; i < text.length(); i++) {
            choir.type(text.charAt(i));
        }
    }

    static int readText(LongTones choir, String text) {
        choir.clearText();
        typeAll(choir, text);
        return choir.read();
    }

    /** A new object with the score of a text. */
    static LongTones withScore(String text) {
        LongTones choir = new LongTones();
        readText(choir, text);
        return choir;
    }

    /** A new object with the score of a text, and singers of the breaths and recoveries that follow. */
    static LongTones withChoir(String text, int... breathsAndRecoveries) {
        LongTones choir = withScore(text);
        for (int i = 0; i + 1 < breathsAndRecoveries.length; i += 2) {
            choir.addSinger(breathsAndRecoveries[i], breathsAndRecoveries[i + 1]);
        }
        return choir;
    }

    /** A new object with the score of a text, and some singers who are all alike. */
    static LongTones withEqualSingers(String text, int number, int breath, int recovery) {
        LongTones choir = withScore(text);
        for (int singer = 0; singer < number; singer++) {
            choir.addSinger(breath, recovery);
        }
        return choir;
    }

    static String times(String text, int times) {
        StringBuilder all = new StringBuilder();
        for (int i = 0; i < times; i++) {
            all.append(text);
        }
        return all.toString();
    }

    /** What a singer does in the beats from 0 on, a digit a beat. */
    static int doings(LongTones choir, int singer, int beats) {
        int digits = 0;
        for (int beat = 0; beat < beats; beat++) {
            digits = digits * 10 + choir.does(singer, beat);
        }
        return digits;
    }

    /** Fault number place as sort * 10000 + beat * 100 + singer, with 99 for nobody. */
    static int faultAt(LongTones choir, int place) {
        int singer = choir.fault(place, 2);
        return choir.fault(place, 0) * 10000 + choir.fault(place, 1) * 100
            + (singer == LongTones.NONE ? 99 : singer);
    }
}
