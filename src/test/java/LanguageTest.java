import java.io.IOException;
import java.lang.reflect.Field;
import java.lang.reflect.Method;
import java.lang.reflect.Modifier;
import java.nio.file.Files;
import java.nio.file.Path;
import java.util.Set;
import java.util.TreeSet;
import java.util.regex.Matcher;
import java.util.regex.Pattern;

/** The constants and the face of the document, and those rules of LANGUAGE.md that can be seen from outside. */
public final class LanguageTest {
    private static final Path SOURCE = Path.of("src/main/java/FoldedProfiles.java");

    public static void main(String[] args) throws IOException {
        constants();
        face();
        classesInside();
        words();
        Due.end();
    }

    private static void constants() {
        Due.due("UNKNOWN", FoldedProfiles.UNKNOWN, -1);
        Due.due("BAD_VALUE", FoldedProfiles.BAD_VALUE, -2);
        Due.due("FULL", FoldedProfiles.FULL, -3);
        Due.due("NOT_POSSIBLE", FoldedProfiles.NOT_POSSIBLE, -4);
        Due.due("NONE", FoldedProfiles.NONE, -5);
        Due.due("NO_CUT", FoldedProfiles.NO_CUT, -10);
    }

    private static void face() {
        Set<String> due = new TreeSet<>(Set.of("buy 2", "trade 2", "part 2", "draw 3", "come 3", "comeAll 0",
            "serve 1", "serveAll 0"));
        due.addAll(Set.of("cut 3", "turn 2", "set 2", "type 1", "clearText 0", "undo 0", "keep 0", "restore 0"));
        due.addAll(Set.of("width 2", "profile 2", "layerWidth 3", "strip 2", "sitter 2", "ifCut 4", "bestStrip 2",
            "fewestFolds 2", "count 1"));
        Set<String> names = new TreeSet<>();
        due.forEach(method -> names.add(method.split(" ")[0]));
        Set<String> found = new TreeSet<>();
        for (Method method : FoldedProfiles.class.getDeclaredMethods()) {
            if (Modifier.isPublic(method.getModifiers())) {
                found.add(method.getName() + " " + method.getParameterCount());
                expect(method.getName() + " returns int", method.getReturnType() == int.class);
            } else {
                expect(method + " is private", Modifier.isPrivate(method.getModifiers()) || method.isSynthetic());
                expect(method + " has a name of its own", !names.contains(method.getName()));
            }
        }
        expect("the public methods are " + due + " but found " + found, due.equals(found));
        int publicFields = 0;
        for (Field field : FoldedProfiles.class.getDeclaredFields()) {
            int is = field.getModifiers();
            publicFields += Modifier.isPublic(is) ? 1 : 0;
            expect(field + " is public or private", Modifier.isPublic(is) || Modifier.isPrivate(is));
            expect(field + " is final, if it is static", !Modifier.isStatic(is) || Modifier.isFinal(is));
        }
        Due.due("public constants", publicFields, 6);
        Due.due("constructors", FoldedProfiles.class.getDeclaredConstructors().length, 1);
        Due.due("public constructors", FoldedProfiles.class.getConstructors().length, 1);
        expect("the class is final", Modifier.isFinal(FoldedProfiles.class.getModifiers()));
    }

    private static void classesInside() {
        Class<?>[] inside = FoldedProfiles.class.getDeclaredClasses();
        expect("some twelve classes at most", inside.length <= 11);
        for (Class<?> one : inside) {
            int is = one.getModifiers();
            expect(one + " is static", Modifier.isStatic(is));
            expect(one + " is not public", !Modifier.isPublic(is) && !Modifier.isProtected(is));
            expect(one + " has some twenty fields at most", one.getDeclaredFields().length <= 20);
        }
    }

    private static void words() throws IOException {
        String code = Files.readString(SOURCE).replaceAll("(?s)/\\*.*?\\*/", "").replaceAll("//[^\n]*", "");
        Matcher word = Pattern.compile("\\b(package|import|throw|throws|try|catch|finally|synchronized|assert"
            + "|System\\.(?!arraycopy\\b)\\w+|equals|hashCode|toString|\\w+Exact|volatile|native|protected)\\b"
            + "|->|::|@").matcher(code);
        while (word.find()) {
            expect("the source has " + word.group(), false);
        }
        expect("the source has signs 1 to 127 alone", code.chars().allMatch(sign -> sign >= 1 && sign <= 127));
    }

    private static void expect(String what, boolean holds) {
        Due.due(what, holds ? 1 : 0, 1);
    }
}
