import java.lang.reflect.Constructor;
import java.lang.reflect.Field;
import java.lang.reflect.Method;
import java.lang.reflect.Modifier;
import java.nio.file.Files;
import java.nio.file.Path;
import java.util.Set;
import java.util.TreeSet;
import java.util.regex.Matcher;
import java.util.regex.Pattern;

/** The face of the document, and the rules of LANGUAGE.md that can be seen without running a call. */
public final class FaceTest {
    private static final Set<String> FACE = Set.of(
            "int sets(int,int)", "int input(int)", "int shifts(int)", "int reaches(int)",
            "int wears(int,int)", "int clears()", "int lays(long)", "int ups(int)", "int downs(int)",
            "int times(int,int)", "int divides()", "int turns(int,int)", "int drum(int,int)",
            "int wheel(int)", "long value()", "int counter(int)", "int count(int)", "long trial(int)",
            "int explains(long,int,int)", "int type(int)", "int wipes()", "int does()", "int back()",
            "int told(int)", "long digest()");

    public static void main(String[] args) throws Exception {
        Check check = new Check();
        theClass(check);
        theMethods(check);
        theConstants(check);
        theSource(check);
        check.end();
    }

    private static void theClass(Check check) {
        check.holds("DrumCrank is public", Modifier.isPublic(DrumCrank.class.getModifiers()));
        check.holds("DrumCrank is final", Modifier.isFinal(DrumCrank.class.getModifiers()));
        Constructor<?>[] made = DrumCrank.class.getDeclaredConstructors();
        check.due("constructors", made.length, 1);
        check.holds("the constructor is public and takes nothing",
                Modifier.isPublic(made[0].getModifiers()) && made[0].getParameterCount() == 0);
        for (Class<?> inside : DrumCrank.class.getDeclaredClasses()) {
            int m = inside.getModifiers();
            check.holds(inside + " is static, and private or package-visible",
                    Modifier.isStatic(m) && !Modifier.isPublic(m) && !Modifier.isProtected(m));
        }
    }

    private static void theMethods(Check check) {
        Set<String> open = new TreeSet<>();
        for (Method method : DrumCrank.class.getDeclaredMethods()) {
            if (!Modifier.isPrivate(method.getModifiers())) {
                check.holds(method + " is public and of an object",
                        Modifier.isPublic(method.getModifiers()) && !Modifier.isStatic(method.getModifiers()));
                open.add(told(method));
            }
        }
        check.holds("the methods are those of the face: " + open, open.equals(FACE));
        Set<String> names = new TreeSet<>();
        for (String face : FACE) {
            names.add(face.substring(face.indexOf(' ') + 1, face.indexOf('(')));
        }
        for (Class<?> inside : DrumCrank.class.getDeclaredClasses()) {
            for (Method method : inside.getDeclaredMethods()) {
                check.holds(method + " bears no name of the face", !names.contains(method.getName()));
            }
        }
        for (Method method : DrumCrank.class.getDeclaredMethods()) {
            check.holds(method + " bears no name of the face", !Modifier.isPrivate(method.getModifiers())
                    || !names.contains(method.getName()));
        }
    }

    private static String told(Method method) {
        StringBuilder text = new StringBuilder();
        text.append(method.getReturnType().getName()).append(' ').append(method.getName()).append('(');
        String comma = "";
        for (Class<?> type : method.getParameterTypes()) {
            text.append(comma).append(type.getName());
            comma = ",";
        }
        return text.append(')').toString();
    }

    private static void theConstants(Check check) {
        Set<String> open = new TreeSet<>();
        for (Field field : DrumCrank.class.getDeclaredFields()) {
            int m = field.getModifiers();
            check.holds(field + " is final, where it is static", !Modifier.isStatic(m) || Modifier.isFinal(m));
            if (!Modifier.isPrivate(m)) {
                open.add(field.getName());
                check.holds(field + " is a public constant",
                        Modifier.isPublic(m) && Modifier.isStatic(m) && field.getType() == int.class);
            }
        }
        check.holds("the constants are those of the face: " + open,
                open.equals(Set.of("NONE", "BAD", "NO", "FULL")));
        check.due("NONE", DrumCrank.NONE, -1);
        check.due("BAD", DrumCrank.BAD, -2);
        check.due("NO", DrumCrank.NO, -3);
        check.due("FULL", DrumCrank.FULL, -4);
    }

    private static void theSource(Check check) throws Exception {
        String path = System.getProperty("drumcrank.source", "src/main/java/DrumCrank.java");
        String code = Files.readString(Path.of(path))
                .replaceAll("(?s)/\\*.*?\\*/", "").replaceAll("//[^\n]*", "");
        Matcher refused = Pattern.compile("\\b(throw|throws|try|catch|synchronized|assert|package|native)\\b"
                + "|->|::|\\w+Exact\\b|static\\s*\\{").matcher(code);
        check.holds("no word that LANGUAGE.md rules out", !refused.find());
        Matcher imports = Pattern.compile("import\\s+([^;]+);").matcher(code);
        while (imports.find()) {
            check.holds("import " + imports.group(1),
                    Set.of("java.util.Arrays", "java.util.ArrayList", "java.util.List").contains(imports.group(1)));
        }
    }
}
