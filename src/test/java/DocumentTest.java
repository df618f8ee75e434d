import java.lang.reflect.Method;
import java.lang.reflect.Modifier;
import java.nio.charset.StandardCharsets;
import java.nio.file.DirectoryStream;
import java.nio.file.Files;
import java.nio.file.Path;
import java.util.ArrayList;
import java.util.List;
import java.util.regex.Matcher;
import java.util.regex.Pattern;

/** README.md tells what is so, and the tests go by the document, sentence by sentence. */
public final class DocumentTest {
    private static final Path DOCUMENT = Path.of("../shared/DOC.md"), README = Path.of("README.md");
    private static final Path TESTS = Path.of("src/test/java");
    private static final Pattern BLOCK = Pattern.compile("```java\n(.*?)```", Pattern.DOTALL);
    private static final Pattern LAID = Pattern.compile("lay\\(x, \"(.*)\"\\);");
    private static final Pattern CALL = Pattern.compile("x\\.(\\w+)\\((.*?)\\); *// (-?\\d+).*");
    private static final Pattern QUOTE = Pattern.compile("S\\.by\\(((?:\\s*\\+?\\s*\"(?:[^\"\\\\]|\\\\.)*\")+)\\)");
    private static final Pattern PIECE = Pattern.compile("\"((?:[^\"\\\\]|\\\\.)*)\"");
    private static final Pattern PROMISE = Pattern.compile("## Promise (\\d+): .*\n\n`.*?`: (.*)\n");
    /** Words that stand at so many places that they tell no sentence. */
    private static final int SHORT = 8;
    private static final Due DUE = new Due();

    public static void main(String[] args) throws Exception {
        readme();
        sentences();
        DUE.end();
    }

    private static String read(Path path) throws Exception {
        return new String(Files.readAllBytes(path), StandardCharsets.UTF_8);
    }

    private static void readme() throws Exception {
        String text = read(README);
        TailSpeaks x = new TailSpeaks();
        Matcher block = BLOCK.matcher(text);
        while (block.find()) {
            if (block.group(1).startsWith("static ")) helper(block.group(1));
            else for (String line : block.group(1).split("\n")) shown(x, line);
        }
        for (Method m : TailSpeaks.class.getDeclaredMethods()) {
            if (!Modifier.isPublic(m.getModifiers())) continue;
            DUE.is("README.md names " + m.getName(), text.contains("`" + m.getName() + "`") ? 1 : 0, 1);
        }
    }

    /** The tests lay their texts by the very lines that README.md shows. */
    private static void helper(String lines) throws Exception {
        String tests = read(TESTS.resolve("Due.java")).replaceAll("\\s+", " ");
        DUE.is("README.md's lay() is that of the tests", tests.contains(lines.replaceAll("\\s+", " ").trim()) ? 1 : 0, 1);
    }

    private static void shown(TailSpeaks x, String line) throws Exception {
        if (line.isEmpty() || line.equals("TailSpeaks x = new TailSpeaks();")) return;
        Matcher laid = LAID.matcher(line), call = CALL.matcher(line);
        if (laid.matches()) Due.lay(x, laid.group(1));
        else if (call.matches()) DUE.is("README.md: " + line, answer(x, call.group(1), call.group(2)), Integer.parseInt(call.group(3)));
        else DUE.is("README.md shows a line that is not run: " + line, 0, 1);
    }

    private static int answer(TailSpeaks x, String name, String list) throws Exception {
        String[] told = list.isEmpty() ? new String[0] : list.split(", ");
        Class<?>[] types = new Class<?>[told.length];
        Object[] values = new Object[told.length];
        for (int i = 0; i < told.length; i++) {
            types[i] = int.class;
            values[i] = told[i].equals("TailSpeaks.NONE") ? TailSpeaks.NONE : Integer.parseInt(told[i]);
        }
        return (Integer) TailSpeaks.class.getMethod(name, types).invoke(x, values);
    }

    private static void sentences() throws Exception {
        String document = read(DOCUMENT);
        boolean[] told = new boolean[document.length()];
        for (String words : quotes()) {
            int at = document.indexOf(words);
            DUE.is("the document says: " + words, at >= 0 ? 1 : 0, 1);
            for (; at >= 0 && words.length() >= SHORT; at = document.indexOf(words, at + 1)) {
                for (int i = at; i < at + words.length(); i++) told[i] = true;
            }
        }
        Matcher promise = PROMISE.matcher(document);
        int promises = 0;
        for (; promise.find(); promises++) {
            String left = untold(promise, told);
            DUE.is("promise " + promise.group(1) + ", what no test goes by: " + left, left.length(), 0);
        }
        DUE.is("promises", promises, 36);
    }

    private static String untold(Matcher promise, boolean[] told) {
        StringBuilder left = new StringBuilder();
        for (int i = promise.start(2); i < promise.end(2); i++) {
            char c = promise.group(2).charAt(i - promise.start(2));
            if (!told[i] && Character.isLetterOrDigit(c)) left.append(c);
        }
        return left.toString();
    }

    private static List<String> quotes() throws Exception {
        List<String> all = new ArrayList<>();
        try (DirectoryStream<Path> files = Files.newDirectoryStream(TESTS, "*.java")) {
            for (Path file : files) {
                Matcher quote = QUOTE.matcher(read(file));
                while (quote.find()) all.add(joined(quote.group(1)));
            }
        }
        return all;
    }

    private static String joined(String pieces) {
        StringBuilder words = new StringBuilder();
        Matcher piece = PIECE.matcher(pieces);
        while (piece.find()) words.append(piece.group(1).replace("\\\"", "\""));
        return words.toString();
    }
}
