import java.io.IOException;
import java.lang.reflect.Constructor;
import java.lang.reflect.Executable;
import java.lang.reflect.Field;
import java.lang.reflect.Method;
import java.lang.reflect.Modifier;
import java.nio.file.Files;
import java.nio.file.Path;
import java.util.ArrayList;
import java.util.Arrays;
import java.util.HashSet;
import java.util.List;
import java.util.Set;
import java.util.TreeSet;

/** The document's face, word by word, and those rules of ../shared/LANGUAGE.md that a program can look up. */
final class FaceTests {
    private static final Path DOCUMENT = Path.of("../shared/DOC.md");
    private static final Path SOURCE = Path.of("src/main/java/TimewarpYard.java");
    private static final String[] FOREIGN = {"finally", "synchronized", "assert ", "->", "::", "volatile", "transient",
        "native", "getMessage", "System.out", "System.nano", "System.current", "new Thread", "Math.random", "HashMap",
        "String.format", "catch (Throwable", "catch (Exception", "catch (RuntimeException", "ArrayIndexOutOfBounds",
        "NullPointer", "ClassCast", "NegativeArraySize", "ArrayStore", "Exact(", "\" +", "+ \"", "equals(", "hashCode"};
    private static final Set<String> IMPORTS = Set.of("import java.util.ArrayList;", "import java.util.Arrays;",
            "import java.util.NoSuchElementException;");

    private FaceTests() {
    }

    static void runAll() {
        face();
        noOtherMember();
        noPrivateMethodOfAPublicName();
        staticFieldsAreConstants();
        sizesOfClasses();
        sizesOfMethods();
        wordsOfTheSource();
    }

    private static String lineOf(Executable call, String result) {
        List<String> types = new ArrayList<>();
        for (Class<?> type : call.getParameterTypes()) {
            types.add(type.getSimpleName());
        }
        List<String> thrown = new ArrayList<>();
        for (Class<?> type : call.getExceptionTypes()) {
            thrown.add(type.getSimpleName());
        }
        return result + call.getName() + "(" + String.join(", ", types) + ")"
                + (thrown.isEmpty() ? "" : " throws " + String.join(", ", thrown)) + ";";
    }

    /** The face as the document writes it, without the names of parameters. */
    private static Set<String> faceOfTheDocument() {
        Set<String> lines = new TreeSet<>();
        try {
            for (String line : Files.readAllLines(DOCUMENT)) {
                if (line.startsWith("    public ")) {
                    lines.add(line.trim().replaceAll("(int|long|char|boolean|float|double) \\w+(?=[,)])", "$1"));
                }
            }
        } catch (IOException e) {
            throw new IllegalStateException(e);
        }
        return lines;
    }

    private static void face() {
        Set<String> lines = new TreeSet<>();
        for (Constructor<?> made : TimewarpYard.class.getDeclaredConstructors()) {
            lines.add(lineOf(made, "public "));
        }
        for (Method method : TimewarpYard.class.getDeclaredMethods()) {
            if (Modifier.isPublic(method.getModifiers())) {
                lines.add(lineOf(method, "public " + method.getReturnType().getSimpleName() + " "));
            }
        }
        Check.due("face: a constructor and 41 methods", lines.size(), 42);
        Check.due("face: as the document writes it", String.join("\n", lines), String.join("\n", faceOfTheDocument()));
        int modifiers = TimewarpYard.class.getModifiers();
        Check.due("face: public and final", Modifier.isPublic(modifiers) && Modifier.isFinal(modifiers), true);
        Check.due("face: extends nothing", TimewarpYard.class.getSuperclass() == Object.class, true);
        Check.due("face: implements nothing", TimewarpYard.class.getInterfaces().length, 0);
    }

    private static void noOtherMember() {
        for (Field field : TimewarpYard.class.getDeclaredFields()) {
            Check.due("rule 1: field " + field.getName(), Modifier.isPrivate(field.getModifiers()), true);
        }
        for (Method method : TimewarpYard.class.getDeclaredMethods()) {
            int modifiers = method.getModifiers();
            boolean isDue = Modifier.isPublic(modifiers) || Modifier.isPrivate(modifiers) || method.isSynthetic();
            Check.due("rule 1: method " + method.getName(), isDue, true);
        }
        for (Class<?> inside : TimewarpYard.class.getDeclaredClasses()) {
            int modifiers = inside.getModifiers();
            boolean isDue = !Modifier.isPublic(modifiers) && !Modifier.isProtected(modifiers);
            Check.due("rule 1: class " + inside.getSimpleName(), isDue && Modifier.isStatic(modifiers), true);
        }
    }

    private static void noPrivateMethodOfAPublicName() {
        Set<String> names = new HashSet<>();
        for (Method method : TimewarpYard.class.getDeclaredMethods()) {
            if (Modifier.isPublic(method.getModifiers())) {
                names.add(method.getName());
            }
        }
        for (Method method : TimewarpYard.class.getDeclaredMethods()) {
            if (Modifier.isPrivate(method.getModifiers())) {
                Check.due("rule 1: name " + method.getName(), names.contains(method.getName()), false);
            }
        }
    }

    private static List<Class<?>> all() {
        List<Class<?>> all = new ArrayList<>(Arrays.asList(TimewarpYard.class.getDeclaredClasses()));
        all.add(TimewarpYard.class);
        return all;
    }

    private static void staticFieldsAreConstants() {
        for (Class<?> one : all()) {
            for (Field field : one.getDeclaredFields()) {
                if (Modifier.isStatic(field.getModifiers())) {
                    boolean isDue = Modifier.isFinal(field.getModifiers()) && field.getType().isPrimitive();
                    Check.due("rule 5: " + field.getName(), isDue, true);
                }
            }
        }
    }

    private static void sizesOfClasses() {
        Check.due("rule 11: classes", all().size() <= 12, true);
        for (Class<?> one : all()) {
            int fields = 0;
            for (Field field : one.getDeclaredFields()) {
                fields += Modifier.isStatic(field.getModifiers()) ? 0 : 1;
            }
            Check.due("rule 11: fields of " + one.getSimpleName() + ", " + fields, fields <= 20, true);
            for (Method method : one.getDeclaredMethods()) {
                boolean isDue = method.getParameterCount() <= 7;
                Check.due("rule 11: parameters of " + method.getName(), isDue, true);
            }
        }
    }

    private static List<String> source() {
        try {
            return Files.readAllLines(SOURCE);
        } catch (IOException e) {
            throw new IllegalStateException(e);
        }
    }

    /** A method begins and ends at the same depth; those of the classes inside stand one deeper. */
    private static void sizesOfMethods() {
        List<String> lines = source();
        for (String depth : new String[] {"    ", "        "}) {
            int begin = -1;
            for (int i = 0; i < lines.size(); i++) {
                String line = lines.get(i);
                boolean isClass = line.contains(" class ");
                if (line.startsWith(depth) && line.charAt(depth.length()) != ' ' && line.endsWith("{") && !isClass) {
                    begin = i;
                } else if (line.equals(depth + "}") && begin >= 0) {
                    Check.due("rule 11: lines of " + lines.get(begin).trim(), i - begin < 60, true);
                    begin = -1;
                }
            }
        }
    }

    private static void wordsOfTheSource() {
        int publicClasses = 0;
        for (String line : source()) {
            boolean isComment = line.trim().startsWith("//") || line.trim().startsWith("/**");
            for (String foreign : FOREIGN) {
                Check.due("rules 2 to 13: " + foreign + " in " + line.trim(), !isComment && line.contains(foreign), false);
            }
            if (line.startsWith("import ")) {
                Check.due("rule 4: " + line, IMPORTS.contains(line), true);
            }
            publicClasses += line.startsWith("public ") ? 1 : 0;
            Check.due("no package line", line.startsWith("package "), false);
        }
        Check.due("one public class", publicClasses, 1);
    }
}
