import java.lang.reflect.Constructor;
import java.lang.reflect.Field;
import java.lang.reflect.Method;
import java.lang.reflect.Modifier;
import java.nio.file.Files;
import java.nio.file.Path;
import java.util.Set;
import java.util.TreeSet;
import java.util.regex.Matcher;
import java.util.regex.Pattern;

/** Forms in the source that LANGUAGE.md rules out, and the face of the class. */
public final class LanguageTest {
    private static int wrong = 0;

    private static void refuse(String what) {
        wrong++;
        System.out.println(what);
    }

    private static String withoutComments(String source) {
        return source.replaceAll("(?s)/\\*.*?\\*/", "").replaceAll("//[^\n]*", "");
    }

    private static void checkSource(String source) {
        String[] outside = {
            "\\bthrow\\b", "\\bthrows\\b", "\\btry\\b", "\\bcatch\\b", "\\bsynchronized\\b", "\\bassert\\b",
            "->", "::", "\\bimport\\b", "\\bpackage\\b", "Exact\\b", "\\bBigInteger\\b", "\\bdouble\\b",
            "\\bfloat\\b", "\\bpublic\\s+static\\s+(?!final\\b)", "\\bprotected\\b", "System\\.(?!arraycopy)",
            "while \\(true\\)", "for \\(;;\\)", "\\bstatic\\s*\\{"
        };
        for (String form : outside) {
            Matcher found = Pattern.compile(form).matcher(source);
            if (found.find()) {
                refuse("the source has " + found.group());
            }
        }
    }

    /** Rule 11, short methods, and rule 12: only constructors make objects, so that no call needs room. */
    private static void checkMethods(String source) {
        Matcher head = Pattern.compile("(?m)^( +)([\\w\\[\\] ]* )?(\\w+)\\([^;{}]*\\) \\{$").matcher(source);
        int from = 0;
        int count = 0;
        while (head.find(from)) {
            int end = source.indexOf("\n" + head.group(1) + "}", head.end());
            String body = source.substring(head.start(), end);
            from = end;
            count++;
            if (body.lines().count() > 60) {
                refuse("the method " + head.group(3) + " is long");
            }
            boolean isConstructor = head.group(3).matches("[A-Z]\\w*");
            if (!isConstructor && Pattern.compile("\\bnew\\b").matcher(body).find()) {
                refuse("the method " + head.group(3) + " makes an object");
            }
        }
        // The constructors of Point, Equation and Reckoner are not written out.
        int due = membersOf(ChordPoints.class) - 3;
        for (Class<?> c : ChordPoints.class.getDeclaredClasses()) {
            due += membersOf(c);
        }
        if (count != due) {
            refuse(count + " methods and constructors are found in the source, the classes have " + due);
        }
    }

    private static int membersOf(Class<?> c) {
        int count = 0;
        for (Method m : c.getDeclaredMethods()) {
            count += m.isSynthetic() ? 0 : 1;
        }
        for (Constructor<?> made : c.getDeclaredConstructors()) {
            count += made.isSynthetic() ? 0 : 1;
        }
        return count;
    }

    /** Rule 1: the face, and nothing else that can be seen from outside. */
    private static void checkFace() {
        Set<String> face = new TreeSet<>();
        for (Method m : ChordPoints.class.getDeclaredMethods()) {
            if (!Modifier.isPrivate(m.getModifiers()) && !m.isSynthetic()) {
                face.add(m.getName() + java.util.Arrays.toString(m.getParameterTypes()) + m.getReturnType());
            }
        }
        Set<String> due = new TreeSet<>(Set.of(
                "curve[int, int, int, int, int]int", "none[int]boolean",
                "point[int, long, long, long, long]int", "sum[int, int, int]int", "less[int, int, int]int",
                "times[int, int, int]int", "order[int]int", "isNone[int]boolean", "same[int, int]boolean",
                "digits[int, int]int", "digitAt[int, int, int]int", "sign[int, int]int"));
        if (!face.equals(due)) {
            refuse("the face is " + face);
        }
        for (Field f : ChordPoints.class.getDeclaredFields()) {
            boolean isFace = f.getName().equals("NONE") && Modifier.isPublic(f.getModifiers());
            if (!isFace && !Modifier.isPrivate(f.getModifiers()) && !f.isSynthetic()) {
                refuse("the field " + f.getName() + " can be seen");
            }
            if (Modifier.isStatic(f.getModifiers()) && !Modifier.isFinal(f.getModifiers())) {
                refuse("the static field " + f.getName() + " can be changed");
            }
        }
        Constructor<?>[] made = ChordPoints.class.getDeclaredConstructors();
        if (made.length != 1 || made[0].getParameterCount() != 0 || !Modifier.isPublic(made[0].getModifiers())) {
            refuse("the constructor is another one");
        }
    }

    /** Rules 1, 2 and 11: names, parameters and fields of the classes inside. */
    private static void checkInside() {
        Set<String> names = new TreeSet<>();
        for (Method m : ChordPoints.class.getDeclaredMethods()) {
            if (Modifier.isPublic(m.getModifiers())) {
                names.add(m.getName());
            }
        }
        for (Method m : ChordPoints.class.getDeclaredMethods()) {
            if (m.getParameterCount() > 7 || Modifier.isPrivate(m.getModifiers()) && names.contains(m.getName())) {
                refuse("method " + m);
            }
        }
        Class<?>[] inside = ChordPoints.class.getDeclaredClasses();
        if (inside.length > 11) {
            refuse("there are " + inside.length + " classes inside");
        }
        for (Class<?> c : inside) {
            if (!Modifier.isStatic(c.getModifiers()) || Modifier.isPublic(c.getModifiers())) {
                refuse("class " + c.getName());
            }
            if (c.getDeclaredFields().length > 20) {
                refuse(c.getName() + " has too many fields");
            }
            for (Field f : c.getDeclaredFields()) {
                if (Modifier.isStatic(f.getModifiers()) && !Modifier.isFinal(f.getModifiers())) {
                    refuse("the static field " + f + " can be changed");
                }
            }
            for (Method m : c.getDeclaredMethods()) {
                if (m.getParameterCount() > 7 || names.contains(m.getName())) {
                    refuse("method " + m);
                }
            }
        }
    }

    public static void main(String[] args) throws Exception {
        String source = withoutComments(Files.readString(Path.of("src/main/java/ChordPoints.java")));
        checkSource(source);
        checkMethods(source);
        checkFace();
        checkInside();
        System.out.println(wrong == 0 ? "the source keeps to the rules that are looked at" : wrong + " refused");
        if (wrong != 0) {
            System.exit(1);
        }
    }
}
