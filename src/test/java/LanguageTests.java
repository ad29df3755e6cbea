import java.io.IOException;
import java.lang.reflect.Field;
import java.lang.reflect.Member;
import java.lang.reflect.Method;
import java.lang.reflect.Modifier;
import java.nio.file.Files;
import java.nio.file.Path;
import java.util.ArrayList;
import java.util.Arrays;
import java.util.List;
import java.util.TreeSet;
import java.util.regex.Pattern;

/** What can be seen of LANGUAGE.md and of the document's face from outside. */
public final class LanguageTests {
    private static final Answers A = new Answers();
    private static final String[] FACE = {
        "artists(int)", "bone(int,int,int)", "cut(int,int,int)", "heat(int)",
        "key(int,int,int,int,int,boolean)", "keyAt(int)", "machine(int)", "money(int)", "night(int)",
        "offer(int,int)", "place(int,int)", "seconds(int)", "setRate(int)", "show()", "shown(int)",
        "span(int,int,int)", "state(int)", "uncut(int)", "unkey(int,int,int)", "value(int,int,int)",
        "voids()", "voidsByAll()"};
    private static final String[] FORBIDDEN = {
        "\\bpackage\\b", "\\bimport\\b", "\\btry\\b", "\\bcatch\\b", "\\bfinally\\b", "->", "::",
        "\\bsynchronized\\b", "\\bassert\\b", "\\bstatic\\s*\\{", "System\\.", "Exact\\b",
        "\"", "\\bvar\\b", "hashCode", "toString"};

    public static void main(String[] args) throws IOException {
        face();
        members(KeyframeCourt.class);
        for (Class<?> inner : KeyframeCourt.class.getDeclaredClasses()) {
            members(inner);
            innerNames(inner);
        }
        words(Files.readString(Path.of("src/main/java/KeyframeCourt.java")));
        A.close("LanguageTests");
    }

    private static void is(String what, Object want, Object got) {
        A.due(what, String.valueOf(want), String.valueOf(got));
    }

    private static void face() {
        int modifiers = KeyframeCourt.class.getModifiers();
        is("rule 1 public and final", true, Modifier.isPublic(modifiers) && Modifier.isFinal(modifiers));
        List<String> open = new ArrayList<>();
        TreeSet<String> names = new TreeSet<>();
        for (Method method : KeyframeCourt.class.getDeclaredMethods()) {
            if (!Modifier.isPrivate(method.getModifiers())) {
                open.add(method.getName() + Arrays.toString(method.getParameterTypes())
                        .replace("[", "(").replace("]", ")").replace(" ", ""));
                names.add(method.getName());
                is("returns int: " + method.getName(), "int", method.getReturnType().getName());
            }
        }
        open.sort(null);
        is("rule 1 methods", Arrays.toString(FACE), open);
        is("rule 1 constructors", 1, KeyframeCourt.class.getDeclaredConstructors().length);
        for (Method method : KeyframeCourt.class.getDeclaredMethods()) {
            if (Modifier.isPrivate(method.getModifiers())) {
                is("rule 1 private name " + method.getName(), false, names.contains(method.getName()));
            }
        }
    }

    private static void members(Class<?> type) {
        int changing = 0;
        for (Field field : type.getDeclaredFields()) {
            is("rule 1 private field " + field.getName(), true, Modifier.isPrivate(field.getModifiers()));
            if (Modifier.isStatic(field.getModifiers())) {
                is("rule 5 final " + field.getName(), true, Modifier.isFinal(field.getModifiers()));
            } else {
                changing++;
            }
        }
        is("rule 11 fields of " + type.getName(), true, changing <= 20);
        for (Method method : type.getDeclaredMethods()) {
            is("rule 11 parameters of " + method.getName(), true, method.getParameterCount() <= 7);
        }
    }

    private static void innerNames(Class<?> inner) {
        for (Member method : inner.getDeclaredMethods()) {
            for (String call : FACE) {
                is("rule 1 name " + method.getName(), false, call.startsWith(method.getName() + "("));
            }
        }
    }

    private static void words(String source) {
        for (String word : FORBIDDEN) {
            is("word " + word, false, Pattern.compile(word).matcher(source).find());
        }
        is("signs below 127 alone", true, source.chars().allMatch(sign -> sign < 127));
    }
}
