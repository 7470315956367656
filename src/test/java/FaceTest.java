import java.lang.reflect.Constructor;
import java.lang.reflect.Field;
import java.lang.reflect.Method;
import java.lang.reflect.Modifier;
import java.nio.file.Files;
import java.nio.file.Path;
import java.util.ArrayList;
import java.util.Arrays;
import java.util.List;
import java.util.TreeSet;
import java.util.regex.Matcher;
import java.util.regex.Pattern;

/** The face of the class is the one of the document's section 'The public face', and nothing else can be seen. */
final class FaceTest {
    private static final Path DOCUMENT = Path.of("../shared/DOC.md");

    public static void main(String[] args) throws Exception {
        Check.same("the face", face(), documentFace());
        Check.same("members that can be seen", hiddenLeaks(), List.of());
        Check.same("class", Modifier.toString(EstimateContest.class.getModifiers()), "public final");
        Check.finish();
    }

    private static TreeSet<String> face() {
        TreeSet<String> face = new TreeSet<>();
        for (Constructor<?> made : EstimateContest.class.getConstructors()) {
            face.add("EstimateContest" + parameters(made.getParameterTypes()) + thrown(made.getExceptionTypes()));
        }
        for (Method method : EstimateContest.class.getDeclaredMethods()) {
            if (Modifier.isPublic(method.getModifiers())) {
                face.add(method.getReturnType().getSimpleName() + " " + method.getName()
                        + parameters(method.getParameterTypes()) + thrown(method.getExceptionTypes()));
            }
        }
        return face;
    }

    private static List<String> hiddenLeaks() {
        List<String> leaks = new ArrayList<>();
        for (Method method : EstimateContest.class.getDeclaredMethods()) {
            int modifiers = method.getModifiers();
            if (!Modifier.isPublic(modifiers) && !Modifier.isPrivate(modifiers)) {
                leaks.add(method.toString());
            }
        }
        for (Field field : EstimateContest.class.getDeclaredFields()) {
            if (!Modifier.isPrivate(field.getModifiers())) {
                leaks.add(field.toString());
            }
        }
        return leaks;
    }

    private static String parameters(Class<?>[] types) {
        List<String> names = new ArrayList<>();
        Arrays.asList(types).forEach(type -> names.add(type.getSimpleName()));
        return "(" + String.join(", ", names) + ")";
    }

    private static String thrown(Class<?>[] types) {
        TreeSet<String> names = new TreeSet<>();
        Arrays.asList(types).forEach(type -> names.add(type.getSimpleName()));
        return " " + names;
    }

    private static TreeSet<String> documentFace() throws Exception {
        TreeSet<String> face = new TreeSet<>();
        Pattern line = Pattern.compile(" {4}public ([\\w ]+)\\(([^)]*)\\)(?: throws ([\\w, ]+))?;");
        Matcher found = line.matcher(Files.readString(DOCUMENT));
        while (found.find()) {
            String types = found.group(2).replaceAll("(\\w+) \\w+", "$1");
            TreeSet<String> names = new TreeSet<>();
            if (found.group(3) != null) {
                names.addAll(Arrays.asList(found.group(3).split(", ")));
            }
            face.add(found.group(1) + "(" + types + ") " + names);
        }
        return face;
    }
}
