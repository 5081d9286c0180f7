import java.io.IOException;
import java.lang.reflect.Constructor;
import java.lang.reflect.Field;
import java.lang.reflect.Method;
import java.lang.reflect.Modifier;
import java.util.Arrays;
import java.util.TreeSet;
import java.util.regex.Matcher;
import java.util.regex.Pattern;
import java.util.stream.Collectors;

/** The class has the document's face and no other member that a caller could see. */
public final class FaceTest {
    private static final int MEMBERS = 18;
    private static final Pattern CONSTANT = Pattern.compile("public static final (\\w+ \\w+) = .*;");
    private static final Pattern CALL = Pattern.compile("public ([\\w ]+)\\(([^)]*)\\)(.*);");

    public static void main(String[] args) throws IOException {
        Due due = new Due("FaceTest");
        due.part("face");
        TreeSet<String> face = membersOfDocument(new Document());
        due.is("how many members the document shows", MEMBERS, face::size);
        due.same("members", face.toString(), visibleMembers().toString());
        due.is("NONE", -1, () -> BoardStore.NONE);
        int modifiers = BoardStore.class.getModifiers();
        due.is("public and final", true, () -> Modifier.isPublic(modifiers) && Modifier.isFinal(modifiers));
        due.is("all visible members are public", true, FaceTest::allVisiblePublic);
        due.is("no method of the face is static", true, FaceTest::noVisibleMethodStatic);
        due.is("NONE is static and final", true, FaceTest::noneIsConstant);
        due.is("classes inside are static, and private or package-visible", true, FaceTest::classesInsideAreHidden);
        due.end();
    }

    private static TreeSet<String> membersOfDocument(Document document) {
        TreeSet<String> shown = new TreeSet<>();
        for (String line : document.text("The public face").split("\n")) {
            Matcher constant = CONSTANT.matcher(line.trim());
            Matcher call = CALL.matcher(line.trim());
            if (constant.matches()) {
                shown.add(constant.group(1));
            } else if (call.matches()) {
                // The names of the parameters, and the words that a class file does not keep, are left out.
                shown.add(call.group(1) + "(" + call.group(2).replaceAll(" \\w+(, )?", ",").replaceAll(",$", "") + ")"
                        + call.group(3).replace(" throws", "").replace(",", ""));
            }
        }
        return shown;
    }

    private static TreeSet<String> visibleMembers() {
        TreeSet<String> seen = new TreeSet<>();
        for (Constructor<?> c : BoardStore.class.getDeclaredConstructors()) {
            if (!Modifier.isPrivate(c.getModifiers())) {
                seen.add("BoardStore(" + names(c.getParameterTypes(), ",") + ")");
            }
        }
        for (Method m : BoardStore.class.getDeclaredMethods()) {
            if (!Modifier.isPrivate(m.getModifiers()) && !m.isSynthetic()) {
                seen.add(m.getReturnType().getSimpleName() + " " + m.getName()
                        + "(" + names(m.getParameterTypes(), ",") + ") " + names(m.getExceptionTypes(), " "));
            }
        }
        for (Field f : BoardStore.class.getDeclaredFields()) {
            if (!Modifier.isPrivate(f.getModifiers()) && !f.isSynthetic()) {
                seen.add(f.getType().getSimpleName() + " " + f.getName());
            }
        }
        return seen;
    }

    private static boolean allVisiblePublic() {
        boolean all = true;
        for (Constructor<?> c : BoardStore.class.getDeclaredConstructors()) {
            all &= Modifier.isPrivate(c.getModifiers()) || Modifier.isPublic(c.getModifiers());
        }
        for (Method m : BoardStore.class.getDeclaredMethods()) {
            all &= m.isSynthetic() || Modifier.isPrivate(m.getModifiers()) || Modifier.isPublic(m.getModifiers());
        }
        for (Field f : BoardStore.class.getDeclaredFields()) {
            all &= f.isSynthetic() || Modifier.isPrivate(f.getModifiers()) || Modifier.isPublic(f.getModifiers());
        }
        return all;
    }

    private static boolean noVisibleMethodStatic() {
        boolean all = true;
        for (Method m : BoardStore.class.getDeclaredMethods()) {
            all &= Modifier.isPrivate(m.getModifiers()) || m.isSynthetic() || !Modifier.isStatic(m.getModifiers());
        }
        return all;
    }

    private static boolean noneIsConstant() {
        for (Field f : BoardStore.class.getDeclaredFields()) {
            if (f.getName().equals("NONE")) {
                return Modifier.isStatic(f.getModifiers()) && Modifier.isFinal(f.getModifiers());
            }
        }
        return false;
    }

    private static boolean classesInsideAreHidden() {
        boolean all = true;
        for (Class<?> inside : BoardStore.class.getDeclaredClasses()) {
            int modifiers = inside.getModifiers();
            all &= Modifier.isStatic(modifiers) && !Modifier.isPublic(modifiers) && !Modifier.isProtected(modifiers);
        }
        return all;
    }

    private static String names(Class<?>[] types, String between) {
        return Arrays.stream(types).map(Class::getSimpleName).collect(Collectors.joining(between));
    }
}
