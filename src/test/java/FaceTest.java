import java.lang.reflect.Constructor;
import java.lang.reflect.Executable;
import java.lang.reflect.Field;
import java.lang.reflect.Method;
import java.lang.reflect.Modifier;
import java.nio.file.Files;
import java.nio.file.Path;
import java.util.ArrayList;
import java.util.Collections;
import java.util.HashSet;
import java.util.List;
import java.util.Set;
import java.util.regex.Matcher;
import java.util.regex.Pattern;

/** The public face is the document's, no more and no less; and LANGUAGE.md's plainest rules. */
public final class FaceTest {
    private static final String[] FORBIDDEN = {
        "throw", "throws", "try", "catch", "finally", "synchronized", "assert", "import",
        "package", "volatile", "native", "protected", "System.out", "System.exit", "Exact",
        "->", "::", "double", "float", "@",
    };

    public static void main(String[] args) throws Exception {
        String text = Files.readString(Path.of("src/main/java/AerialSurvey.java"));
        classItself();
        members(Document.face());
        faceInSource(Document.face(), text);
        namesInside();
        innerClasses();
        source(text);
        Due.end();
    }

    private static void classItself() {
        Due.due("public and final",
                AerialSurvey.class.getModifiers() == (Modifier.PUBLIC | Modifier.FINAL));
        Due.due("no class above it", AerialSurvey.class.getSuperclass() == Object.class);
        Due.due("interfaces", AerialSurvey.class.getInterfaces().length, 0);
    }

    /** All that isn't private is the document's, with its modifiers, types and values. */
    private static void members(List<String> face) throws Exception {
        List<String> found = new ArrayList<>();
        for (Field field : AerialSurvey.class.getDeclaredFields()) {
            if (!Modifier.isPrivate(field.getModifiers())) {
                found.add(Modifier.toString(field.getModifiers()) + " " + field.getType() + " "
                        + field.getName() + " = " + field.getInt(null));
            }
        }
        for (Constructor<?> constructor : AerialSurvey.class.getDeclaredConstructors()) {
            found.add(Modifier.toString(constructor.getModifiers()) + " AerialSurvey"
                    + types(constructor));
        }
        for (Method method : AerialSurvey.class.getDeclaredMethods()) {
            if (!Modifier.isPrivate(method.getModifiers())) {
                found.add(Modifier.toString(method.getModifiers()) + " " + method.getReturnType()
                        + " " + method.getName() + types(method));
            }
        }
        List<String> want = new ArrayList<>();
        for (String line : face) {
            want.add(line.replaceAll("(int|boolean) \\w+(?=[,)])", "$1"));
        }
        Due.due("lines of the document's face", want.size(), 6 + 1 + 27);
        Collections.sort(want);
        Collections.sort(found);
        Due.due("the face " + found + " is the document's " + want, found.equals(want));
    }

    private static String types(Executable member) {
        List<String> types = new ArrayList<>();
        for (Class<?> type : member.getParameterTypes()) {
            types.add(type.getName());
        }
        return "(" + String.join(", ", types) + ")";
    }

    /** With the document's names of the parameters, and in its order. */
    private static void faceInSource(List<String> face, String text) {
        int at = 0;
        for (String line : face) {
            int next = text.indexOf("\n    " + line + (line.endsWith(")") ? " {\n" : ";\n"), at);
            Due.due("'" + line + "' in its place", next >= 0);
            at = Math.max(at, next);
        }
    }

    private static void namesInside() {
        Set<String> publicNames = new HashSet<>();
        for (Method method : AerialSurvey.class.getMethods()) {
            publicNames.add(method.getName());
        }
        for (Method method : AerialSurvey.class.getDeclaredMethods()) {
            Due.due("private " + method.getName() + " is no name of the face",
                    Modifier.isPublic(method.getModifiers())
                            || !publicNames.contains(method.getName()));
        }
        for (Class<?> inside : AerialSurvey.class.getDeclaredClasses()) {
            for (Method method : inside.getDeclaredMethods()) {
                Due.due(method.getName() + " is no name of the face",
                        !publicNames.contains(method.getName()));
            }
        }
    }

    private static void innerClasses() {
        Class<?>[] inside = AerialSurvey.class.getDeclaredClasses();
        Due.due("at most twelve classes", inside.length <= 12);
        for (Class<?> one : inside) {
            Due.due(one + " is static and not public",
                    Modifier.isStatic(one.getModifiers()) && !Modifier.isPublic(one.getModifiers()));
            Due.due(one + " has some twenty fields at most", one.getDeclaredFields().length <= 20);
            for (Method method : one.getDeclaredMethods()) {
                Due.due(method + " takes seven parameters at most", method.getParameterCount() <= 7);
            }
        }
    }

    private static void source(String text) {
        for (int i = 0; i < text.length(); i++) {
            Due.due("sign " + i + " is plain", text.charAt(i) == '\n' || text.charAt(i) >= ' ' && text.charAt(i) < 127);
        }
        String code = text.replaceAll("(?s)/\\*.*?\\*/", "").replaceAll("//[^\n]*", "");
        for (String word : FORBIDDEN) {
            boolean isName = Character.isLetter(word.charAt(0)) && !word.equals("Exact");
            Pattern pattern = Pattern.compile(isName ? "\\b" + Pattern.quote(word) + "\\b" : Pattern.quote(word));
            Due.due("no '" + word + "'", !pattern.matcher(code).find());
        }
        libraryUses(code);
        methodsAreShort(code);
    }

    /** Of the library that LANGUAGE.md allows, the class uses these functions alone. */
    private static void libraryUses(String code) {
        List<String> allowed = List.of("Math.max", "Math.min", "Math.abs", "Math.floorDiv");
        Matcher use = Pattern.compile("\\b(?:Math|Integer|Long|System|Arrays|String|List|java)\\.\\w+")
                .matcher(code);
        while (use.find()) {
            Due.due(use.group() + " is allowed", allowed.contains(use.group()));
        }
    }

    private static void methodsAreShort(String code) {
        Matcher method = Pattern.compile("(?m)^( +)(?:[\\w\\[\\]]+ )*\\w+\\([^;{}]*\\) \\{$").matcher(code);
        int methods = 0;
        while (method.find()) {
            int end = code.indexOf("\n" + method.group(1) + "}", method.end());
            Due.due("an end of " + method.group(), end > 0);
            long lines = code.substring(method.start(), Math.max(end, method.start())).lines().count();
            Due.due(method.group() + " is short", lines <= 60);
            methods++;
        }
        Due.due("methods were found", methods > 40);
    }
}
