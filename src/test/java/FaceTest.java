import java.lang.reflect.Constructor;
import java.lang.reflect.Field;
import java.lang.reflect.Member;
import java.lang.reflect.Method;
import java.lang.reflect.Modifier;
import java.nio.file.Files;
import java.nio.file.Path;
import java.util.ArrayList;
import java.util.Arrays;
import java.util.Collections;
import java.util.HashSet;
import java.util.List;
import java.util.Set;
import java.util.regex.Matcher;
import java.util.regex.Pattern;

/** The public face is the document's, no more and no less; and LANGUAGE.md's plainest rules. */
public final class FaceTest {
    private static final String[] CONSTANTS = {
        "OUTSIDE_TERRAIN = -1", "NO_SUCH_STRIP = -2", "NO_SUCH_PHOTO = -3", "BAD_VALUE = -4",
        "FULL = -5", "NONE = -6",
    };

    private static final String[] METHODS = {
        "resize(int,int)", "setHeight(int,int,int)", "raiseHill(int,int,int,int)",
        "height(int,int)", "setAltitude(int)", "setFields(int,int)", "setCrab(int)",
        "setSpeed(int,int,int)", "addStrip(int,int,int,int)", "removeStrip(int)", "stripCount()",
        "photoCount(int)", "photoColumn(int,int)", "seesCell(int,int,int,int)",
        "footprintSize(int,int)", "coverage(int,int)", "gapCount(int)", "gapAt(int,int)",
        "forwardOverlap(int,int)", "sideOverlap(int,int)", "planPhotos(int)",
        "planRowSpacing(int)", "planPhotoSpacing(int)", "applyPlan(int)",
        "stripTime(int,boolean)", "routeTime(int,int)", "routeStep(int,int,int)",
    };

    private static final String[] FORBIDDEN = {
        "throw", "throws", "try", "catch", "finally", "synchronized", "assert", "import",
        "package", "volatile", "native", "protected", "System.out", "System.exit", "Exact",
        "->", "::", "double", "float", "@",
    };

    public static void main(String[] args) throws Exception {
        classAndConstructor();
        constants();
        methods();
        innerClasses();
        source(Files.readString(Path.of("src/main/java/AerialSurvey.java")));
        Due.end();
    }

    private static boolean isPrivate(Member member) {
        return Modifier.isPrivate(member.getModifiers());
    }

    private static void classAndConstructor() {
        int modifiers = AerialSurvey.class.getModifiers();
        Due.due("public", Modifier.isPublic(modifiers));
        Due.due("final", Modifier.isFinal(modifiers));
        Constructor<?>[] constructors = AerialSurvey.class.getDeclaredConstructors();
        Due.due("constructors", constructors.length, 1);
        Due.due("public constructor", Modifier.isPublic(constructors[0].getModifiers()));
        Due.due("constructor without arguments", constructors[0].getParameterCount(), 0);
    }

    private static void constants() throws Exception {
        List<String> found = new ArrayList<>();
        for (Field field : AerialSurvey.class.getDeclaredFields()) {
            if (!isPrivate(field)) {
                found.add(field.getName() + " = " + field.getInt(null));
                Due.due("public static final int " + field.getName(),
                        field.getModifiers() == (Modifier.PUBLIC | Modifier.STATIC | Modifier.FINAL)
                                && field.getType() == int.class);
            }
        }
        dueSame("constants", found, CONSTANTS);
    }

    private static void methods() {
        List<String> found = new ArrayList<>();
        Set<String> publicNames = new HashSet<>();
        for (Method method : AerialSurvey.class.getDeclaredMethods()) {
            if (!isPrivate(method)) {
                found.add(signature(method));
                publicNames.add(method.getName());
                Due.due("public int " + method.getName(),
                        method.getModifiers() == Modifier.PUBLIC && method.getReturnType() == int.class);
            }
        }
        dueSame("methods", found, METHODS);
        for (Class<?> inside : AerialSurvey.class.getDeclaredClasses()) {
            for (Method method : inside.getDeclaredMethods()) {
                Due.due(method.getName() + " is no name of the face",
                        !publicNames.contains(method.getName()));
            }
        }
    }

    private static String signature(Method method) {
        List<String> types = new ArrayList<>();
        for (Class<?> type : method.getParameterTypes()) {
            types.add(type.getName());
        }
        return method.getName() + "(" + String.join(",", types) + ")";
    }

    private static void dueSame(String what, List<String> found, String[] want) {
        List<String> wanted = new ArrayList<>(Arrays.asList(want));
        Collections.sort(wanted);
        Collections.sort(found);
        Due.due(what + " " + found, found.equals(wanted));
    }

    private static void innerClasses() {
        Class<?>[] inside = AerialSurvey.class.getDeclaredClasses();
        Due.due("at most twelve classes", inside.length <= 12);
        for (Class<?> one : inside) {
            Due.due(one + " is static and not public",
                    Modifier.isStatic(one.getModifiers()) && !Modifier.isPublic(one.getModifiers()));
            Due.due(one + " has some twenty fields at most", one.getDeclaredFields().length <= 20);
            for (Method method : one.getDeclaredMethods()) {
                Due.due(method + " takes seven parameters at most", method.getParameterCount() <= 7);
            }
        }
    }

    private static void source(String text) {
        for (int i = 0; i < text.length(); i++) {
            Due.due("sign " + i + " is plain", text.charAt(i) == '\n' || text.charAt(i) >= ' ' && text.charAt(i) < 127);
        }
        String code = text.replaceAll("(?s)/\\*.*?\\*/", "").replaceAll("//[^\n]*", "");
        for (String word : FORBIDDEN) {
            boolean isName = Character.isLetter(word.charAt(0)) && !word.equals("Exact");
            Pattern pattern = Pattern.compile(isName ? "\\b" + Pattern.quote(word) + "\\b" : Pattern.quote(word));
            Due.due("no '" + word + "'", !pattern.matcher(code).find());
        }
        libraryUses(code);
        methodsAreShort(code);
    }

    /** Of the library that LANGUAGE.md allows, the class uses these functions alone. */
    private static void libraryUses(String code) {
        List<String> allowed = List.of("Math.max", "Math.min", "Math.abs", "Math.floorDiv");
        Matcher use = Pattern.compile("\\b(?:Math|Integer|Long|System|Arrays|String|List|java)\\.\\w+")
                .matcher(code);
        while (use.find()) {
            Due.due(use.group() + " is allowed", allowed.contains(use.group()));
        }
    }

    private static void methodsAreShort(String code) {
        Matcher method = Pattern.compile("(?m)^( +)(?:[\\w\\[\\]]+ )*\\w+\\([^;{}]*\\) \\{$").matcher(code);
        int methods = 0;
        while (method.find()) {
            int end = code.indexOf("\n" + method.group(1) + "}", method.end());
            Due.due("an end of " + method.group(), end > 0);
            long lines = code.substring(method.start(), Math.max(end, method.start())).lines().count();
            Due.due(method.group() + " is short", lines <= 60);
            methods++;
        }
        Due.due("methods were found", methods > 40);
    }
}
