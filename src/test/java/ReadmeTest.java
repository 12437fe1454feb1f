import java.io.IOException;
import java.lang.reflect.Method;
import java.lang.reflect.Modifier;
import java.nio.file.Files;
import java.nio.file.Path;
import java.util.ArrayList;
import java.util.List;
import java.util.regex.Matcher;
import java.util.regex.Pattern;

/** What README.md shows is so: its code stands in this file too, the answers behind // are those, each call is named. */
public final class ReadmeTest {
    private static final String SELF = "src/test/java/ReadmeTest.java";
    /** What the calls of the example answered, one behind the other, as README.md writes it behind //. */
    private static final List<String> ANSWERS = new ArrayList<>();

    private ReadmeTest() {
    }

    public static void main(String[] args) throws IOException {
        String readme = Files.readString(Path.of("README.md"));
        example();
        List<String> shown = codeOf(readme);
        Due.is("code in README.md", shown.size() > 20, true);
        sameCode(shown);
        sameAnswers(shown);
        callsAreNamed(readme);
        testsAreNamed(readme);
        Due.end("ReadmeTest");
    }

    // [README]
    static int tell(NextBell bell, String text) {
        for (int i = 0; i < text.length(); i += 20) {
            int[] five = new int[5];
            for (int j = 0; j < 20; j++) {
                five[j / 4] = five[j / 4] << 8 | (i + j < text.length() ? text.charAt(i + j) : ' ');
            }
            bell.feed(five[0], five[1], five[2], five[3], five[4]);
        }
        return bell.street(text.length());
    }
    // [/README]

    private static void example() {
        // [README]
        NextBell bell = new NextBell();
        int houses = tell(bell, "street fright 1;"
                + "house ann timber day 5 by 50; house bob brick calm; house cid thatch day 9 by 100;"
                + "spark ann bob days 2; spark bob cid days 3;"
                + "does ann cut; does bob douse; does cid panic;"
                + "glass day 0; glass day 8;"
                + "unknown cid; rung day 0 ann; rung day 5 cid"); // 3
        // [/README]
        ANSWERS.add(String.valueOf(houses));
        show(bell.burns(1));
        show(bell.litBy(1));
        show(bell.next(0));
        show(bell.agrees(0));
        show(bell.dumbDay());
        show(bell.burnsIf(1, 0));
        show(bell.ways());
        show(bell.wayAt(0, 1));
        show(bell.fits());
        show(bell.tryDay());
        show(bell.odds(1, 8, true));
        show(bell.tell(0));
        show(bell.burns(1));
        show(bell.undo() ? "true" : "false");
        show(bell.burns(3));
        show(bell.trouble());
        show(tell(bell, "street fright 10"));
        show(bell.trouble());
        show(bell.fault());
        show(bell.where());
    }

    private static void show(int answer) {
        ANSWERS.add(String.valueOf(answer));
    }

    private static void show(long answer) {
        ANSWERS.add(String.valueOf(answer));
    }

    private static void show(String answer) {
        ANSWERS.add(answer);
    }

    /** The lines of code that README.md shows, without their margins. */
    private static List<String> codeOf(String readme) {
        List<String> lines = new ArrayList<>();
        Matcher blocks = Pattern.compile("(?s)```java\n(.*?)```").matcher(readme);
        while (blocks.find()) {
            for (String line : blocks.group(1).split("\n")) {
                if (!line.isBlank()) {
                    lines.add(line.strip());
                }
            }
        }
        return lines;
    }

    /** Each line that is shown stands here too: as it is, or as what show() is given. */
    private static void sameCode(List<String> shown) throws IOException {
        List<String> here = new ArrayList<>();
        boolean inside = false;
        for (String line : Files.readAllLines(Path.of(SELF))) {
            String bare = line.strip();
            if (bare.equals("// [README]") || bare.equals("// [/README]")) {
                inside = bare.equals("// [README]");
            } else if (inside && !bare.isEmpty()) {
                here.add(bare);
            } else if (bare.startsWith("show(bell.") || bare.startsWith("show(tell(")) {
                here.add(bare.replaceFirst("^show\\((.*)\\);$", "$1;").replace(" ? \"true\" : \"false\"", ""));
            }
        }
        Due.is("lines of code in README.md", shown.size(), here.size());
        for (int i = 0; i < shown.size() && i < here.size(); i++) {
            String call = here.get(i).contains("//") ? shown.get(i) : shown.get(i).replaceFirst(" *//.*", "");
            Due.is("README.md shows " + shown.get(i) + ", here it is " + here.get(i), call.equals(here.get(i)), true);
        }
    }

    private static void sameAnswers(List<String> shown) {
        List<String> told = new ArrayList<>();
        for (String line : shown) {
            Matcher answer = Pattern.compile("// (-?\\d+|true|false)\\b").matcher(line);
            if (answer.find()) {
                told.add(answer.group(1));
            }
        }
        Due.is("answers " + told + " in README.md, due are " + ANSWERS, told.equals(ANSWERS), true);
    }

    private static void callsAreNamed(String readme) {
        for (Method m : NextBell.class.getDeclaredMethods()) {
            if (Modifier.isPublic(m.getModifiers())) {
                Due.is("README.md names " + m.getName(), readme.contains("`" + m.getName() + "`"), true);
            }
        }
    }

    private static void testsAreNamed(String readme) throws IOException {
        try (var files = Files.list(Path.of("src/test/java"))) {
            for (Path file : (Iterable<Path>) files::iterator) {
                String name = file.getFileName().toString().replace(".java", "");
                Due.is("README.md names " + name, readme.contains(name), true);
            }
        }
    }
}
