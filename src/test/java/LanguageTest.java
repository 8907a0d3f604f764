import java.io.IOException;
import java.nio.file.Files;
import java.nio.file.Path;
import java.util.TreeSet;
import java.util.regex.Matcher;
import java.util.regex.Pattern;

/** What LANGUAGE.md rules out, as far as it can be seen in the text of the class. */
final class LanguageTest {
    private static final Check CHECK = new Check();
    private static final String[] NEVER = {"\\bthrows?\\b", "\\btry\\b", "\\bcatch\\b", "\\bfinally\\b",
        "\\bsynchronized\\b", "\\bassert\\b", "\\bprotected\\b", "\\bimport\\b", "\\bpackage\\b", "\\bSystem\\b(?!\\.arraycopy)",
        "\\bThread\\b", "\\bhashCode\\b", "\\btoString\\b", "\\bvolatile\\b", "->", "::", "Exact\\b", "\\[\\]\\[\\]\\["};
    private static final Pattern METHOD =
        Pattern.compile("(?m)^( +)((?:public|private|static|final) )*[\\w\\[\\]]+ (\\w+)\\(([^)]*)\\) \\{$");

    public static void main(String[] args) throws IOException {
        String source = Files.readString(Path.of("src/main/java/DiamondRows.java"));
        CHECK.holds("signs are plain", source.chars().allMatch(c -> c == '\n' || c >= 32 && c < 127));
        String code = withoutComments(source);
        for (String never : NEVER) {
            Matcher m = Pattern.compile(never).matcher(code);
            CHECK.holds("no " + never, !m.find());
        }
        Matcher statics = Pattern.compile("(?m)^ *(private |public )?static (?!final\\b)[^(]*[;=]").matcher(code);
        CHECK.holds("static fields are final", !statics.find());
        classes(code);
        methods(code);
        CHECK.finish();
    }

    /** Comments and texts go, lines stay. */
    private static String withoutComments(String source) {
        Matcher m = Pattern.compile("\"[^\"\\n]*\"|'\\\\?.'|//[^\\n]*|/\\*.*?\\*/", Pattern.DOTALL).matcher(source);
        return m.replaceAll(found -> found.group().replaceAll("[^\\n]", " "));
    }

    private static void classes(String code) {
        Matcher m = Pattern.compile("(?m)^ *(.*)\\b(class|record|enum|interface) \\w+").matcher(code);
        int found = 0;
        while (m.find()) {
            found++;
            CHECK.holds(m.group() + " is static, or the face", found == 1 || m.group(1).contains("static "));
        }
        CHECK.holds(found + " classes are at most twelve", found > 1 && found <= 12);
    }

    private static void methods(String code) {
        TreeSet<String> open = new TreeSet<>();
        TreeSet<String> inside = new TreeSet<>();
        Matcher m = METHOD.matcher(code);
        while (m.find()) {
            String name = m.group(3);
            (m.group().trim().startsWith("public") ? open : inside).add(name);
            int close = code.indexOf("\n" + m.group(1) + "}", m.end());
            long lines = code.substring(m.start(), close).lines().count();
            CHECK.holds(name + " has at most sixty lines: " + lines, lines <= 60);
            CHECK.holds(name + " has at most seven parameters", m.group(4).split(",").length <= 7);
        }
        CHECK.due("public methods and the constructor", open.size(), 39);
        TreeSet<String> both = new TreeSet<>(open);
        both.retainAll(inside);
        CHECK.holds("no other method bears a public one's name: " + both, both.isEmpty());
    }
}
