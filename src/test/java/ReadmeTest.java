import java.io.IOException;
import java.lang.reflect.Method;
import java.lang.reflect.Modifier;
import java.nio.file.Files;
import java.nio.file.Path;
import java.util.List;
import java.util.regex.Matcher;
import java.util.regex.Pattern;
import java.util.stream.Stream;

/**
 * README.md: what it tells a user to type works as it is told there, and it tells all that there is.
 * Its blocks are done in their order in a checkout of its own: java is saved, sh is typed, and text is
 * how what the last sh printed ends.
 */
public final class ReadmeTest {
    private static final Path README = Path.of("README.md");
    private static final Pattern BLOCK = Pattern.compile("^```(\\w*)\n(.*?)^```$", Pattern.MULTILINE | Pattern.DOTALL);
    private static final Pattern CLASS = Pattern.compile("public final class (\\w+)");
    private static final Pattern NAMED_TEST = Pattern.compile("`(\\w+Test)`");

    public static void main(String[] args) throws IOException, InterruptedException {
        if (Checkout.isInside()) {
            System.out.println("README.md is being tested, and does not test itself");
            return;
        }
        String readme = Files.readString(README);
        face(readme);
        tests(readme);
        howToCompileAndToTest(readme);
        blocks(readme);
        Check.end();
    }

    /** Each public method has a row with the exceptions that it throws, in their order. */
    private static void face(String readme) {
        for (Method m : UnikernelHttp.class.getDeclaredMethods()) {
            if (!Modifier.isPublic(m.getModifiers())) {
                continue;
            }
            StringBuilder due = new StringBuilder("^\\| `" + m.getName() + "\\(");
            due.append("\\w+, ".repeat(Math.max(0, m.getParameterCount() - 1)));
            due.append(m.getParameterCount() > 0 ? "\\w+\\)`" : "\\)`");
            for (Class<?> e : m.getExceptionTypes()) {
                due.append(".*").append(e.getSimpleName());
            }
            Check.yes("a row for " + m, Pattern.compile(due.toString(), Pattern.MULTILINE).matcher(readme).find());
        }
    }

    /** Every test is named, and every test that is named is there. */
    private static void tests(String readme) throws IOException {
        Path directory = Path.of("src/test/java");
        try (Stream<Path> files = Files.list(directory)) {
            List<String> names = files.map(f -> f.getFileName().toString().replace(".java", "")).toList();
            for (String name : names) {
                Check.yes("README.md names " + name, readme.contains("`" + name + "`"));
            }
        }
        Matcher named = NAMED_TEST.matcher(readme);
        while (named.find()) {
            Check.yes(named.group(1) + " is there", Files.exists(directory.resolve(named.group(1) + ".java")));
        }
    }

    private static void howToCompileAndToTest(String readme) {
        StringBuilder typed = new StringBuilder("\n");
        Matcher block = BLOCK.matcher(readme);
        while (block.find()) {
            if (block.group(1).equals("sh")) {
                typed.append(block.group(2));
            }
        }
        Check.yes("how to compile", typed.toString().contains("\njavac -d build src/main/java/UnikernelHttp.java\n"));
        Check.yes("how to test", typed.toString().contains("\n.ci/run\n"));
    }

    private static void blocks(String readme) throws IOException, InterruptedException {
        Checkout checkout = new Checkout();
        checkout.share();
        checkout.copy(".ci");
        checkout.copy("src");
        checkout.copy("README.md");
        Matcher block = BLOCK.matcher(readme);
        while (block.find()) {
            String body = block.group(2);
            switch (block.group(1)) {
                case "java": save(checkout, body); break;
                case "sh": type(checkout, body); break;
                case "text": endsWith(checkout, body); break;
                default: Check.yes("a block that can be tested: " + body, false);
            }
        }
        checkout.remove();
    }

    private static void save(Checkout checkout, String body) throws IOException {
        Matcher name = CLASS.matcher(body);
        Check.yes("a class that can be saved: " + body, name.find());
        checkout.write(name.group(1) + ".java", body);
    }

    private static void type(Checkout checkout, String body) throws IOException, InterruptedException {
        int code = Checkout.end(checkout.start("sh", "-e", "-c", body));
        Check.same("exit code of [" + body + "]", code, 0);
        if (code != 0) {
            System.out.println(checkout.printed());
        }
    }

    private static void endsWith(Checkout checkout, String body) throws IOException {
        String printed = "\n" + checkout.printed().replace("\r\n", "\n");
        int from = Math.max(0, printed.length() - body.length() - 1);
        Check.same("the end of what is printed", printed.substring(from), "\n" + body);
    }
}
