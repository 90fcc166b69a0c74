import java.io.IOException;
import java.nio.file.Files;
import java.nio.file.Path;
import java.util.Arrays;
import java.util.HashSet;
import java.util.List;
import java.util.Set;
import java.util.regex.Matcher;
import java.util.regex.Pattern;

/** Some rules of LANGUAGE.md that can be seen in the words of the source. */
public final class LanguageTest {
    private static final Check CHECK = new Check("LanguageTest");
    private static final String[] BANNED = {"\\bthrow\\b", "\\bthrows\\b", "\\btry\\b", "\\bcatch\\b",
        "\\bfinally\\b", "\\bsynchronized\\b", "\\bassert\\b", "\\bimport\\b", "\\bpackage\\b",
        "\\bvar\\b", "->", "::", "\\bequals\\b", "\\bhashCode\\b", "\\btoString\\b", "Exact\\b",
        "\\bSystem\\b", "\\bObject\\b", "\\bstatic\\s*\\{", "\\bnative\\b", "\\bvolatile\\b", "@"};
    private static final List<String> FACE = Arrays.asList("type", "clearText", "read", "setLoudness",
        "setSort", "addSinger", "setPresent", "addSolo", "removeSolo", "mark", "setReserve", "make",
        "undo", "keep", "restore", "beat", "singer", "does", "left", "solo", "fault",
        "silentWithout", "breathFor", "count");
    private static final Pattern METHOD = Pattern.compile(
        "(?m)^ +(public |private )?(static )?(int|boolean|void) (\\w+)\\(([^)]*)\\) \\{");

    public static void main(String[] args) throws IOException {
        String path = args.length > 0 ? args[0] : "src/main/java/LongTones.java";
        String source = Files.readString(Path.of(path));
        String code = source.replaceAll("(?s)/\\*.*?\\*/", " ").replaceAll("//[^\n]*", " ");
        for (String word : BANNED) {
            CHECK.due(word, Pattern.compile(word).matcher(code).find() ? 1 : 0, 0);
        }
        CHECK.due("signs above 126", source.chars().anyMatch(c -> c > 126) ? 1 : 0, 0);
        classes(code);
        methods(code);
        CHECK.end();
    }

    private static void classes(String code) {
        Matcher found = Pattern.compile("([a-z ]*)\\bclass (\\w+)").matcher(code);
        int classes = 0;
        while (found.find()) {
            classes++;
            String due = classes == 1 ? "public final" : "private static final";
            CHECK.due("class " + found.group(2), found.group(1).trim().equals(due) ? 1 : 0, 1);
        }
        CHECK.due("at most twelve classes", classes <= 12 ? 1 : 0, 1);
    }

    private static void methods(String code) {
        Set<String> open = new HashSet<>();
        Matcher found = METHOD.matcher(code);
        while (found.find()) {
            String name = found.group(4);
            boolean isPublic = "public ".equals(found.group(1));
            CHECK.due(name + " is public", isPublic ? 1 : 0, FACE.contains(name) ? 1 : 0);
            CHECK.due(name + ": parameters", found.group(5).split(",").length <= 7 ? 1 : 0, 1);
            CHECK.due(name + ": lines", linesFrom(code, found.end()) <= 60 ? 1 : 0, 1);
            if (isPublic) {
                open.add(name);
            }
        }
        CHECK.due("methods of the face", open.size(), FACE.size());
    }

    private static int linesFrom(String code, int start) {
        int depth = 1;
        int lines = 1;
        for (int i = start; i < code.length() && depth > 0; i++) {
            char sign = code.charAt(i);
            depth += sign == '{' ? 1 : sign == '}' ? -1 : 0;
            lines += sign == '\n' ? 1 : 0;
        }
        return lines;
    }
}
