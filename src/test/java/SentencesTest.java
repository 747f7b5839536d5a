import java.io.IOException;
import java.nio.file.Files;
import java.nio.file.Path;
import java.util.ArrayList;
import java.util.List;
import java.util.regex.Matcher;
import java.util.regex.Pattern;
import java.util.stream.Collectors;
import java.util.stream.Stream;

/**
 * Every sentence of 'What it is', of 'Description' and of the promises is named by Due.sentence in
 * a test of that section, and what the tests name are the document's words.
 */
public final class SentencesTest {
    private static final Path TESTS = Path.of("src/test/java");
    private static final Pattern SENTENCE =
            Pattern.compile("Due\\.sentence\\(((?:\\s*\\+?\\s*\"(?:[^\"\\\\]|\\\\.)*\")+)\\)");
    private static final Pattern TEXT = Pattern.compile("\"((?:[^\"\\\\]|\\\\.)*)\"");

    public static void main(String[] args) throws IOException {
        String document = Document.text();
        for (int promise = 1; promise <= 28; promise++) {
            String number = (promise < 10 ? "0" : "") + promise;
            dueNamed("Promise" + number, section(document, "## Promise " + promise + ":"));
        }
        dueNamed("Description", section(document, "## Description"));
        dueNamed("WhatItIs", section(document, "## What it is"));
        Due.end();
    }

    /** The section under a heading, as far as tests of its sentences are due. */
    private static String section(String document, String heading) {
        int start = document.indexOf("\n" + heading);
        Due.due("the document has a section '" + heading + "'", start >= 0);
        if (start < 0) {
            return "";
        }
        int body = document.indexOf('\n', start + 1);
        int end = document.indexOf("\n## ", body);
        String text = document.substring(body, end < 0 ? document.length() : end);
        // The examples have a test of their own, and signatures are tested by FaceTest.
        return Stream.of(text.split("\n"))
                .filter(line -> !line.startsWith("Examples:") && !line.matches("\\d\\. .*= -?\\d+\\."))
                .filter(line -> !line.startsWith("---- ") && !line.matches("`(int )?\\w+\\(.*\\)`"))
                .filter(line -> !line.equals("The constants:"))
                .filter(line -> !line.startsWith("The constructor and the methods follow"))
                .map(line -> line.replaceFirst("^- ", ""))
                .collect(Collectors.joining(" ")).replaceAll("\\s+", " ").trim();
    }

    private static void dueNamed(String tests, String section) throws IOException {
        boolean[] named = new boolean[section.length()];
        for (String sentence : sentences(tests)) {
            int at = section.indexOf(sentence);
            Due.due(tests + ": the document says '" + sentence + "'", at >= 0);
            while (at >= 0) {
                java.util.Arrays.fill(named, at, at + sentence.length(), true);
                at = section.indexOf(sentence, at + 1);
            }
        }
        StringBuilder rest = new StringBuilder();
        for (int i = 0; i < named.length; i++) {
            rest.append(named[i] ? ' ' : section.charAt(i));
        }
        Due.due("a test of " + tests + " for: " + rest.toString().trim(), rest.toString().isBlank());
    }

    private static List<String> sentences(String tests) throws IOException {
        List<Path> files;
        try (Stream<Path> all = Files.list(TESTS)) {
            files = all.filter(file -> file.getFileName().toString().matches(tests + "\\w*Test\\.java"))
                    .sorted().collect(Collectors.toList());
        }
        List<String> sentences = new ArrayList<>();
        for (Path file : files) {
            Matcher sentence = SENTENCE.matcher(Files.readString(file));
            while (sentence.find()) {
                StringBuilder words = new StringBuilder();
                Matcher text = TEXT.matcher(sentence.group(1));
                while (text.find()) {
                    words.append(text.group(1));
                }
                sentences.add(words.toString());
            }
        }
        return sentences;
    }
}
