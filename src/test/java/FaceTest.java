import java.lang.reflect.Constructor;
import java.lang.reflect.Field;
import java.lang.reflect.Method;
import java.lang.reflect.Modifier;
import java.nio.file.Files;
import java.nio.file.Path;
import java.util.Arrays;
import java.util.HashSet;
import java.util.List;
import java.util.Set;
import java.util.TreeSet;
import java.util.regex.Matcher;
import java.util.regex.Pattern;

/** The public face, and those rules of LANGUAGE.md that can be seen in the class and its text. */
public final class FaceTest {
    private static final String[] FACE = {
        "int size(int)", "int unit(int,int,int)", "int made(int,int,int)", "int drop()", "int at(int,int,int)",
        "int of(int,int)", "int character(int,int)", "int factor(int,int)", "int feed(long,int)", "int text()",
        "int listed()", "int whole()", "long element(int,int,int)", "int about(int,int)", "int witness()",
        "int found(int)", "int middle()", "long form(int,int)", "int keeps(int,int)", "int image(int)",
        "int faithful(int)", "int orbit(int,int,int)", "long point(int,int)", "int round(int)",
        "int still(int,int,int)", "int seed(int)", "int lot(int)", "int sheet(int,int,int)",
        "int put(int,int,long)", "int item(int,int,int)", "int copy(int,int,int,int,int)",
        "int lay(int,int,int)", "int take(int,int)", "int many(int)", "int keep()", "int again()"};
    private static final String[] NOT_WRITTEN = {
        "throw", "throws", "try", "catch", "finally", "synchronized", "assert", "native", "transient", "volatile",
        "var", "Object", "Thread", "Random", "Exception", "System.out", "System.nanoTime",
        "System.currentTimeMillis", "hashCode", "toString", "protected", "package", "double", "float"};

    private static String shape(Method method) {
        StringBuilder shape = new StringBuilder();
        shape.append(method.getReturnType().getName()).append(' ').append(method.getName()).append('(');
        String between = "";
        for (Class<?> parameter : method.getParameterTypes()) {
            shape.append(between).append(parameter.getName());
            between = ",";
        }
        return shape.append(')').toString();
    }

    private static void face() throws Exception {
        Class<FiniteMatrices> face = FiniteMatrices.class;
        Check.holds("public and final", face.getModifiers() == (Modifier.PUBLIC | Modifier.FINAL));
        Set<String> due = new TreeSet<>(Arrays.asList(FACE));
        Set<String> names = new HashSet<>();
        Set<String> found = new TreeSet<>();
        for (Method method : face.getDeclaredMethods()) {
            if (Modifier.isPublic(method.getModifiers())) {
                Check.holds("not static: " + method, !Modifier.isStatic(method.getModifiers()));
                found.add(shape(method));
                names.add(method.getName());
            }
        }
        Check.holds("the methods of the document and no others: " + found, found.equals(due));
        for (Method method : face.getDeclaredMethods()) {
            boolean open = Modifier.isPublic(method.getModifiers());
            boolean closed = Modifier.isPrivate(method.getModifiers());
            Check.holds("public or private: " + method, open || closed || method.isSynthetic());
            Check.holds("no name of the face: " + method, open || !names.contains(method.getName()));
        }
        Constructor<?>[] constructors = face.getDeclaredConstructors();
        Check.holds("one constructor", constructors.length == 1 && constructors[0].getParameterCount() == 0);
        Check.holds("a public one", Modifier.isPublic(constructors[0].getModifiers()));
        constants(face);
        inside(face, names);
    }

    private static void constants(Class<?> face) throws Exception {
        Set<String> due = new TreeSet<>(List.of("BAD", "FULL", "NONE", "OVER"));
        Set<String> found = new TreeSet<>();
        for (Field field : face.getDeclaredFields()) {
            int modifiers = field.getModifiers();
            if (Modifier.isPublic(modifiers)) {
                found.add(field.getName());
                Check.holds("an int constant: " + field, modifiers == (Modifier.PUBLIC | Modifier.STATIC | Modifier.FINAL)
                        && field.getType() == int.class);
            } else {
                Check.holds("private: " + field, Modifier.isPrivate(modifiers));
            }
            Check.holds("static only if final: " + field, !Modifier.isStatic(modifiers) || Modifier.isFinal(modifiers));
        }
        Check.holds("the constants: " + found, found.equals(due));
        Check.due("BAD", FiniteMatrices.BAD, -1);
        Check.due("FULL", FiniteMatrices.FULL, -2);
        Check.due("NONE", FiniteMatrices.NONE, -3);
        Check.due("OVER", FiniteMatrices.OVER, -16);
    }

    private static void inside(Class<?> face, Set<String> names) {
        Class<?>[] classes = face.getDeclaredClasses();
        Check.holds("some twelve classes", classes.length + 1 <= 12);
        for (Class<?> inner : classes) {
            Check.holds("static: " + inner, Modifier.isStatic(inner.getModifiers()));
            Check.holds("not public: " + inner, (inner.getModifiers() & (Modifier.PUBLIC | Modifier.PROTECTED)) == 0);
            Check.holds("few fields: " + inner, inner.getDeclaredFields().length <= 20);
            for (Method method : inner.getDeclaredMethods()) {
                Check.holds("no name of the face: " + method, !names.contains(method.getName()));
                Check.holds("at most seven parameters: " + method, method.getParameterCount() <= 7);
            }
        }
    }

    private static void text() throws Exception {
        String written = Files.readString(Path.of("src/main/java/FiniteMatrices.java"));
        String text = written.replaceAll("(?s)/\\*.*?\\*/", "").replaceAll("//[^\n]*", "");
        for (String word : NOT_WRITTEN) {
            Matcher matcher = Pattern.compile("\\b" + Pattern.quote(word) + "\\b").matcher(text);
            Check.holds("not written: " + word, !matcher.find());
        }
        Check.holds("no lambda", !text.contains("->"));
        Check.holds("no method reference", !text.contains("::"));
        Check.holds("no annotation", !text.contains("@"));
        Check.holds("nothing whose name ends in Exact", !text.contains("Exact("));
        Matcher imports = Pattern.compile("import ([^;]*);").matcher(text);
        while (imports.find()) {
            Check.holds("imported: " + imports.group(1),
                    List.of("java.util.Arrays", "java.util.ArrayList", "java.util.List").contains(imports.group(1)));
        }
        Check.holds("signs 1 to 127", written.chars().allMatch(c -> c < 128));
        shortMethods(written);
    }

    /** A method begins behind eight blanks at most, and ends with its own closing bracket. */
    private static void shortMethods(String written) {
        String[] lines = written.split("\n");
        for (int k = 0; k < lines.length; k++) {
            Matcher begin = Pattern.compile("^( {4}| {8})[a-z][^=;]*\\) \\{$").matcher(lines[k]);
            if (!begin.matches()) {
                continue;
            }
            int end = k;
            while (end < lines.length && !lines[end].equals(begin.group(1) + "}")) {
                end++;
            }
            Check.holds("at most sixty lines: " + lines[k].trim(), end - k < 60);
        }
    }

    public static void main(String[] args) throws Exception {
        face();
        text();
        Check.finish();
    }
}
