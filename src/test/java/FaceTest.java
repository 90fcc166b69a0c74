import java.lang.reflect.Constructor;
import java.lang.reflect.Field;
import java.lang.reflect.Method;
import java.lang.reflect.Modifier;
import java.util.Arrays;
import java.util.TreeSet;

/** The public face: the document's members, and no others that can be reached. */
public final class FaceTest {
    private static final String[] DUE = {
        "UNKNOWN", "BAD_VALUE", "FULL", "NOT_POSSIBLE", "NONE", "LongTones()",
        "type(char)", "clearText()", "read()", "setLoudness(int,int,int)", "setSort(int,int)",
        "addSinger(int,int)", "setPresent(int,boolean)", "addSolo(int,int,int)", "removeSolo(int)",
        "mark(int,int,boolean)", "setReserve(int)", "make()", "undo()", "keep(int)", "restore(int)",
        "beat(int,int)", "singer(int,int)", "does(int,int)", "left(int,int)", "solo(int,int)",
        "fault(int,int)", "silentWithout(int)", "breathFor(int)", "count(int)"};

    public static void main(String[] args) {
        Check check = new Check("FaceTest");
        check.due("UNKNOWN", LongTones.UNKNOWN, -1);
        check.due("BAD_VALUE", LongTones.BAD_VALUE, -2);
        check.due("FULL", LongTones.FULL, -3);
        check.due("NOT_POSSIBLE", LongTones.NOT_POSSIBLE, -4);
        check.due("NONE", LongTones.NONE, -5);
        int modifiers = LongTones.class.getModifiers();
        check.due("the class is public and final", modifiers, Modifier.PUBLIC | Modifier.FINAL);
        TreeSet<String> due = new TreeSet<>(Arrays.asList(DUE));
        TreeSet<String> found = found();
        for (String member : due) {
            check.due("has " + member, found.contains(member) ? 1 : 0, 1);
        }
        for (String member : found) {
            check.due("may have " + member, due.contains(member) ? 1 : 0, 1);
        }
        check.end();
    }

    private static TreeSet<String> found() {
        TreeSet<String> found = new TreeSet<>();
        for (Field field : LongTones.class.getDeclaredFields()) {
            if (!Modifier.isPrivate(field.getModifiers())) {
                found.add(field.getName());
            }
        }
        for (Constructor<?> constructor : LongTones.class.getDeclaredConstructors()) {
            found.add("LongTones" + typesOf(constructor.getParameterTypes()));
        }
        for (Method method : LongTones.class.getDeclaredMethods()) {
            if (!Modifier.isPrivate(method.getModifiers())) {
                found.add(method.getName() + typesOf(method.getParameterTypes()));
            }
        }
        return found;
    }

    private static String typesOf(Class<?>[] types) {
        StringBuilder list = new StringBuilder("(");
        for (Class<?> type : types) {
            list.append(list.length() > 1 ? "," : "").append(type.getName());
        }
        return list.append(")").toString();
    }
}
