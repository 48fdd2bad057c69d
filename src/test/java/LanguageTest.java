import java.io.IOException;
import java.lang.reflect.Constructor;
import java.lang.reflect.Field;
import java.lang.reflect.Member;
import java.lang.reflect.Method;
import java.lang.reflect.Modifier;
import java.nio.file.Files;
import java.nio.file.Path;
import java.util.Arrays;
import java.util.Set;
import java.util.TreeSet;
import java.util.regex.Matcher;
import java.util.regex.Pattern;

/** The public face, and what of LANGUAGE.md can be seen from the class and its text. */
public final class LanguageTest {
    private static final Checks checks = new Checks();
    private static final String[] FACE = {
        "int station(int,int,int)", "boolean heights(int,int)", "boolean clear(int,int,int)",
        "int box(int,int,int,int,int)", "boolean speed(int,int)", "boolean brake(int,int)", "int way(int)",
        "int view(int,int,int)", "int sight(int,boolean)", "int need(int,boolean)", "int blind(boolean,int,int)",
        "int setBack(int,int)", "int allowed(int,boolean)", "int overtake(int)", "int seen(int,int,int)",
        "int light(int,int,int)", "int count(int)"};
    private static final String[] RULED_OUT = {"throw", "throws", "try", "catch", "synchronized", "assert",
        "import", "package", "double", "float", "Object", "Exception", "Exact", "protected", "->", "::"};

    public static void main(String[] args) throws IOException {
        face();
        classesInside();
        source(Files.readString(Path.of("src/main/java/SightRows.java")));
        checks.close();
    }

    private static void face() {
        Set<String> publicMethods = new TreeSet<>();
        Set<String> names = new TreeSet<>();
        for (Method m : SightRows.class.getDeclaredMethods()) {
            if (Modifier.isPublic(m.getModifiers())) {
                String types = String.join(",", Arrays.stream(m.getParameterTypes()).map(Class::getName).toList());
                publicMethods.add(m.getReturnType() + " " + m.getName() + "(" + types + ")");
                names.add(m.getName());
            }
        }
        checks.due("face: " + publicMethods, publicMethods.equals(new TreeSet<>(Arrays.asList(FACE))), true);
        checks.due("public and final", SightRows.class.getModifiers(), Modifier.PUBLIC | Modifier.FINAL);
        Constructor<?>[] constructors = SightRows.class.getDeclaredConstructors();
        checks.due("constructors", constructors.length, 1);
        checks.due("public constructor", Modifier.isPublic(constructors[0].getModifiers()), true);
        checks.due("constructor's parameters", constructors[0].getParameterCount(), 0);
        privateBut(names);
    }

    private static void privateBut(Set<String> names) {
        for (Method m : SightRows.class.getDeclaredMethods()) {
            if (!Modifier.isPublic(m.getModifiers())) {
                checkPrivate(m);
                checks.due("bears a public name: " + m, names.contains(m.getName()), false);
            }
            checks.due("at most seven parameters: " + m, m.getParameterCount() <= 7, true);
        }
        for (Field f : SightRows.class.getDeclaredFields()) {
            if (f.getName().equals("BAD")) {
                checks.due("BAD", f.getModifiers(), Modifier.PUBLIC | Modifier.STATIC | Modifier.FINAL);
            } else {
                checkPrivate(f);
                checks.due("static and not final: " + f,
                    Modifier.isStatic(f.getModifiers()) && !Modifier.isFinal(f.getModifiers()), false);
            }
        }
    }

    private static void checkPrivate(Member m) {
        checks.due("private: " + m, Modifier.isPrivate(m.getModifiers()), true);
    }

    private static void classesInside() {
        checks.due("public or package-visible classes inside", SightRows.class.getClasses().length, 0);
        checks.due("some twelve classes", SightRows.class.getDeclaredClasses().length < 12, true);
        fewFields(SightRows.class);
        for (Class<?> inside : SightRows.class.getDeclaredClasses()) {
            checks.due("static: " + inside, Modifier.isStatic(inside.getModifiers()), true);
            checks.due("has none inside: " + inside, inside.getDeclaredClasses().length, 0);
            fewFields(inside);
            for (Method m : inside.getDeclaredMethods()) {
                checks.due("at most seven parameters: " + m, m.getParameterCount() <= 7, true);
            }
        }
    }

    private static void fewFields(Class<?> owner) {
        int fields = 0;
        for (Field f : owner.getDeclaredFields()) {
            if (Modifier.isStatic(f.getModifiers())) {
                checks.due("a constant of int: " + f, f.getType() == int.class, true);
            } else {
                fields++;
            }
        }
        checks.due("some twenty fields: " + owner, fields <= 20, true);
    }

    private static void source(String text) {
        String code = text.replaceAll("(?s)/\\*.*?\\*/", "").replaceAll("//[^\n]*", "");
        for (String word : RULED_OUT) {
            String wanted = Character.isLetter(word.charAt(0)) ? "\\b" + word + "\\b" : Pattern.quote(word);
            checks.due("in the source: " + word, Pattern.compile(wanted).matcher(code).find(), false);
        }
        Matcher library = Pattern.compile("\\b[A-Z]\\w*\\.\\w+").matcher(code);
        while (library.find()) {
            checks.due("of the library: " + library.group(),
                Set.of("Math.abs", "Math.max", "Math.min").contains(library.group()), true);
        }
        // All rows are made with the object: a call makes none, however many calls a run has.
        for (String line : code.split("\n")) {
            if (Pattern.compile("\\bnew\\b").matcher(line).find()) {
                checks.due("made with the object: " + line.strip(),
                    line.strip().startsWith("private final "), true);
            }
        }
    }
}
