import java.io.IOException;
import java.nio.file.Files;
import java.nio.file.Path;
import java.util.ArrayList;
import java.util.List;
import java.util.regex.Matcher;
import java.util.regex.Pattern;

/** Reads ../shared/DOC.md and README.md, so that tests follow their words and not a copy. */
final class Document {
    private static final Path DOCUMENT = Path.of("../shared/DOC.md");
    private static final Path README = Path.of("README.md");
    private static final Pattern EXAMPLE_CALL = Pattern.compile("(\\w+)\\(([^()]*)\\) = (-?\\d+)");
    private static final Pattern README_CALL =
            Pattern.compile("survey\\.(\\w+)\\(([^()]*)\\);\\s*// (-?\\d+)\\b");

    private Document() {
    }

    /** A call as it is written there, with the answer that stands behind it. */
    static final class Call {
        final int answer;
        final String name;
        final Object[] arguments;

        Call(int answer, String name, Object... arguments) {
            this.answer = answer;
            this.name = name;
            this.arguments = arguments;
        }
    }

    static String text() throws IOException {
        return Files.readString(DOCUMENT);
    }

    /** The lines inside the class of 'The public face', without their semicolons. */
    static List<String> face() throws IOException {
        List<String> face = new ArrayList<>();
        for (String line : javaBlock(text()).split("\n")) {
            if (line.startsWith("    ") && line.endsWith(";")) {
                face.add(line.substring(0, line.length() - 1).trim());
            }
        }
        return face;
    }

    /** The calls of each of the numbered examples. */
    static List<List<Call>> examples() throws IOException {
        String text = text();
        int start = text.indexOf("\nExamples:");
        int end = text.indexOf("\nThe constants:", start);
        List<List<Call>> examples = new ArrayList<>();
        if (start >= 0 && end >= 0) {
            for (String line : text.substring(start, end).split("\n")) {
                if (line.matches("\\d\\. .*")) {
                    examples.add(calls(EXAMPLE_CALL, line));
                }
            }
        }
        return examples;
    }

    static List<Call> readmeCalls() throws IOException {
        return calls(README_CALL, javaBlock(readme()));
    }

    static String readme() throws IOException {
        return Files.readString(README);
    }

    private static String javaBlock(String text) {
        int start = text.indexOf("```java\n");
        int end = text.indexOf("\n```\n", start + 1);
        return start >= 0 && end >= 0 ? text.substring(start + "```java\n".length(), end) : "";
    }

    private static List<Call> calls(Pattern pattern, String text) {
        List<Call> calls = new ArrayList<>();
        Matcher call = pattern.matcher(text);
        while (call.find()) {
            calls.add(new Call(Integer.parseInt(call.group(3)), call.group(1), arguments(call.group(2))));
        }
        return calls;
    }

    private static Object[] arguments(String text) {
        if (text.isBlank()) {
            return new Object[0];
        }
        String[] words = text.split(", ");
        Object[] arguments = new Object[words.length];
        for (int i = 0; i < words.length; i++) {
            boolean isTruth = words[i].equals("true") || words[i].equals("false");
            arguments[i] = isTruth ? (Object) Boolean.valueOf(words[i]) : (Object) Integer.valueOf(words[i]);
        }
        return arguments;
    }
}
