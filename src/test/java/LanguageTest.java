import java.io.IOException;
import java.lang.reflect.Modifier;
import java.nio.file.Files;
import java.nio.file.Path;
import java.util.Set;
import java.util.TreeSet;
import java.util.regex.Matcher;
import java.util.regex.Pattern;

/** What of LANGUAGE.md can be seen from the program's words and its face. */
final class LanguageTest {
    private static final Due DUE = new Due("LanguageTest");
    private static final Path PROGRAM = Path.of("src/main/java/NoonLaw.java");
    private static final String[] BARRED = {"\\bthrow\\b", "\\bthrows\\b", "\\btry\\b", "\\bcatch\\b", "\\bassert\\b",
        "\\bsynchronized\\b", "\\bpackage\\b", "->", "::", "\\bvar\\b", "\\byield\\b", "\\bnative\\b", "\\bprotected\\b",
        "\\bString\\.", "Exact\\(", "\\bObject\\b", "@"};
    private static final String FACE = "dream dreamIs become as forgets person personIs takesTo clock feed text untell law"
        + " hours loose seed rule now then first siestas best fewest odds fits voice body sheet put move wonts judge image"
        + " restore tell check count told";

    public static void main(String[] args) throws IOException {
        String source = Files.readString(PROGRAM).replaceAll("(?s)/\\*.*?\\*/", " ").replaceAll("//[^\n]*", " ");
        for (String barred : BARRED) {
            Matcher m = Pattern.compile(barred).matcher(source);
            DUE.is("a place of " + barred, m.find() ? 1 : 0, 0);
        }
        face();
        DUE.end();
    }

    private static void face() {
        Set<String> due = new TreeSet<>(Set.of(FACE.split(" ")));
        Set<String> found = new TreeSet<>();
        for (var method : NoonLaw.class.getDeclaredMethods()) {
            int at = method.getModifiers();
            if (Modifier.isPublic(at)) {
                found.add(method.getName());
            } else {
                DUE.is(method.getName() + " is private", Modifier.isPrivate(at) ? 1 : 0, 1);
                DUE.is(method.getName() + " bears a public name", due.contains(method.getName()) ? 1 : 0, 0);
            }
        }
        DUE.is("the face is " + found, found.equals(due) ? 1 : 0, 1);
        for (var field : NoonLaw.class.getDeclaredFields()) {
            DUE.is(field.getName() + " is private", Modifier.isPrivate(field.getModifiers()) ? 1 : 0, 1);
        }
        for (Class<?> inside : NoonLaw.class.getDeclaredClasses()) {
            DUE.is(inside.getName() + " is static", Modifier.isStatic(inside.getModifiers()) ? 1 : 0, 1);
        }
    }
}
