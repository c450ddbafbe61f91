import java.io.IOException;
import java.lang.reflect.Constructor;
import java.lang.reflect.Field;
import java.lang.reflect.Method;
import java.lang.reflect.Modifier;
import java.nio.file.Files;
import java.nio.file.Path;
import java.util.Arrays;
import java.util.HashSet;
import java.util.List;
import java.util.Set;
import java.util.TreeSet;
import java.util.regex.Pattern;

/** The class's face as the document has it, and those rules of LANGUAGE.md that can be looked up. */
public final class FaceTest {
    private static final String[] FACE = {
        "int junction()", "int stream(int,int,int,int,int)", "boolean against(int,int,int,int,int)",
        "boolean yields(int,int,int)", "boolean street(int,int,int,int,int,int)", "int sets(int)",
        "int set(int,int)", "boolean goes(int,int)", "boolean plan(int,int)", "int stage(int,int,int)",
        "int take(int,int)", "int why(int)", "int told(int,int)", "boolean offset(int,int)",
        "boolean tear(int,int)", "int share(int)", "boolean fit(int,int)", "int green(int,int)",
        "int lamp(int,int,int)", "int run(int)", "long queue(int,int,int)", "int count(int)",
        "boolean flashes(int)", "int width(int,int,int,int,int,int,int,int)",
        "int wave(int,int,int,int,int,int,int,int)", "int check(int,int,int)",
    };

    public static void main(String[] args) throws IOException {
        face();
        inside();
        source(Files.readString(Path.of("src/main/java/GreenDesk.java")));
        Due.end();
    }

    private static String written(Method method) {
        StringBuilder text = new StringBuilder(method.getReturnType() + " " + method.getName() + "(");
        for (Class<?> type : method.getParameterTypes()) {
            text.append(text.charAt(text.length() - 1) == '(' ? "" : ",").append(type);
        }
        return text.append(")").toString();
    }

    private static void face() {
        Set<String> shown = new TreeSet<>();
        for (Method method : GreenDesk.class.getDeclaredMethods()) {
            if (!Modifier.isPrivate(method.getModifiers())) {
                shown.add(written(method));
                Due.due("public " + method, method.getModifiers(), Modifier.PUBLIC);
            }
        }
        Set<String> wanted = new TreeSet<>(Arrays.asList(FACE));
        Due.due("the face is " + shown, shown.equals(wanted), true);
        Due.due("final", Modifier.isFinal(GreenDesk.class.getModifiers()), true);
        Constructor<?>[] made = GreenDesk.class.getDeclaredConstructors();
        Due.due("constructors", made.length, 1);
        Due.due("the constructor's parameters", made[0].getParameterCount(), 0);
        Due.due("the constructor", made[0].getModifiers(), Modifier.PUBLIC);
        for (Field field : GreenDesk.class.getDeclaredFields()) {
            boolean none = field.getName().equals("NONE");
            Due.due("private " + field, Modifier.isPrivate(field.getModifiers()), !none);
        }
    }

    private static void inside() {
        Set<String> names = new HashSet<>();
        for (String method : FACE) {
            names.add(method.substring(method.indexOf(' ') + 1, method.indexOf('(')));
        }
        List<Class<?>> classes = new java.util.ArrayList<>(List.of(GreenDesk.class.getDeclaredClasses()));
        Due.due("classes", classes.size() < 12, true);
        classes.add(GreenDesk.class);
        for (Class<?> each : classes) {
            Due.due("static " + each, each == GreenDesk.class || Modifier.isStatic(each.getModifiers()), true);
            int fields = 0;
            for (Field field : each.getDeclaredFields()) {
                boolean fixed = Modifier.isStatic(field.getModifiers());
                fields += fixed ? 0 : 1;
                Due.due("final if static: " + field, !fixed || Modifier.isFinal(field.getModifiers()), true);
            }
            Due.due("fields of " + each, fields <= 20, true);
            for (Method method : each.getDeclaredMethods()) {
                boolean shown = Modifier.isPublic(method.getModifiers());
                Due.due("parameters of " + method, shown || method.getParameterCount() <= 7, true);
                Due.due("the name of " + method, shown || !names.contains(method.getName()), true);
            }
        }
    }

    private static void source(String text) {
        String code = text.replaceAll("(?s)/\\*.*?\\*/", "").replaceAll("//[^\n]*", "");
        String[] words = {"try", "catch", "throw", "throws", "synchronized", "assert", "import",
            "package", "double", "float", "System", "Thread", "Random", "instanceof", "equals", "hashCode",
            "toString", "goto", "native", "volatile", "transient", "protected", "\\w*Exact"};
        for (String word : words) {
            Due.due("no " + word, Pattern.compile("\\b" + word + "\\b").matcher(code).find(), false);
        }
        Due.due("no lambda", code.contains("->"), false);
        Due.due("no method reference", code.contains("::"), false);
        Due.due("no static block", Pattern.compile("static\\s*\\{").matcher(code).find(), false);
        Due.due("no loop without a bound",
                Pattern.compile("for\\s*\\([^;]*;\\s*;|while\\s*\\(true").matcher(code).find(), false);
        Due.due("plain characters", text.chars().allMatch(c -> c < 128), true);
        Due.due("the longest method", longestMethod(code) <= 60, true);
    }

    private static int longestMethod(String code) {
        int longest = 0;
        int depthAtStart = -1;
        int depth = 0;
        int lines = 0;
        for (String line : code.split("\n")) {
            boolean begins = depthAtStart < 0 && line.trim().matches("[\\w\\[\\] ]+\\(.*[{,(]|[\\w\\[\\] ]+\\(.*")
                    && !line.contains("class ") && !line.contains("=");
            if (begins) {
                depthAtStart = depth;
                lines = 0;
            }
            lines++;
            depth += line.chars().map(c -> c == '{' ? 1 : c == '}' ? -1 : 0).sum();
            if (depthAtStart >= 0 && depth == depthAtStart && line.contains("}")) {
                longest = Math.max(longest, lines);
                depthAtStart = -1;
            }
        }
        return longest;
    }
}
