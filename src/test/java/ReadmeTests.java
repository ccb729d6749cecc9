import java.io.ByteArrayOutputStream;
import java.io.IOException;
import java.io.PrintStream;
import java.lang.reflect.Method;
import java.lang.reflect.Modifier;
import java.net.URL;
import java.net.URLClassLoader;
import java.nio.file.Files;
import java.nio.file.Path;
import java.util.ArrayList;
import java.util.List;
import java.util.Set;
import java.util.TreeSet;
import java.util.regex.Matcher;
import java.util.regex.Pattern;
import java.util.spi.ToolProvider;
import java.util.stream.Stream;

/** What README.md says is so: its example, its forms of lines, its tables, and the files and classes that it names. */
public final class ReadmeTests {
    private static final Path PAGE = Path.of("README.md");
    private static final Path DOCUMENT = Path.of("../shared/DOC.md");
    private static final Path FILE = Path.of("src/main/java/ColdPlunge.java");
    private static final Path TESTS = Path.of("src/test/java");

    private ReadmeTests() {
    }

    public static void main(String[] args) throws Exception {
        String page = Files.readString(PAGE);
        example(block(page, "java"));
        lines(block(page, "text"));
        calls(page);
        numbering();
        refusals();
        faults();
        neverRefused();
        classes(page);
        tests(page);
        files(page);
        Check.end();
    }

    private static String block(String page, String sort) {
        Matcher m = Pattern.compile("(?s)\n```" + sort + "\n(.*?)\n```\n").matcher(page);
        return m.find() ? m.group(1) : "";
    }

    // ---- the example

    /** Each line of the example that prints has its answer in a comment, ahead of a colon or of words. */
    private static void example(String code) throws Exception {
        Check.part("the example");
        List<String> due = new ArrayList<>();
        List<String> shown = new ArrayList<>();
        Matcher m = Pattern.compile("System\\.out\\.println\\((.*)\\); *// (.*)").matcher(code);
        while (m.find()) {
            shown.add(m.group(1));
            due.add(m.group(2));
        }
        Check.due("lines that print", due.size(), code.split("println", -1).length - 1);
        Check.due("some twenty lines", due.size() >= 20, true);
        String[] got = outputOf(code).split("\n");
        Check.due("lines printed", got.length, due.size());
        for (int i = 0; i < Math.min(got.length, due.size()); i++) {
            boolean same = due.get(i).equals(got[i]) || due.get(i).startsWith(got[i] + ":") || due.get(i).startsWith(got[i] + " ");
            Check.due(shown.get(i) + " is " + got[i] + ", told is " + due.get(i), same, true);
        }
    }

    /** Compiled as README.md says, and run. */
    private static String outputOf(String code) throws Exception {
        Path place = Files.createTempDirectory("readme");
        Path file = Files.writeString(place.resolve("Example.java"), code);
        ToolProvider javac = ToolProvider.findFirst("javac").orElseThrow();
        int answer = javac.run(System.out, System.out, "-Xlint:all", "-Werror", "-d", place.toString(), FILE.toString(), file.toString());
        Check.due("the example compiles", answer, 0);
        ByteArrayOutputStream bytes = new ByteArrayOutputStream();
        PrintStream console = System.out;
        try (URLClassLoader loader = new URLClassLoader(new URL[] {place.toUri().toURL()}, null);
            PrintStream out = new PrintStream(bytes)) {
            Method main = loader.loadClass("Example").getMethod("main", String[].class);
            System.setOut(out);
            main.invoke(null, (Object) new String[0]);
        } finally {
            System.setOut(console);
            remove(place);
        }
        return bytes.toString().replace("\r", "");
    }

    private static void remove(Path place) throws IOException {
        List<Path> all;
        try (Stream<Path> walk = Files.walk(place)) {
            all = walk.toList();
        }
        for (int i = all.size() - 1; i >= 0; i--) {
            Files.delete(all.get(i));
        }
    }

    // ---- the forms of lines

    /** Every "a..b" of a form: a and b go, one less and one more don't. */
    private static void lines(String forms) {
        Check.part("the text");
        String[] rows = forms.split("\n");
        Check.due("six sorts", rows.length, 6);
        String bathers = ";bather a plain bears 0;bather b plain bears 0";
        for (String row : rows) {
            String form = row.replaceAll("\\(.*", "").trim();
            String sort = form.replaceAll(" .*", "");
            Matcher m = Pattern.compile("(\\d+)\\.\\.(\\d+)").matcher(form);
            int at = 0;
            while (m.find()) {
                int least = Integer.parseInt(m.group(1));
                int greatest = Integer.parseInt(m.group(2));
                for (int value : new int[] {least, greatest, least - 1, greatest + 1}) {
                    if (value < 0) {
                        continue;
                    }
                    String line = form.substring(0, m.start()) + value + form.substring(m.end());
                    int fault = value < least || value > greatest ? 4 : 0;
                    Check.due(line, faultOf(textWith(sort, line, bathers)), fault);
                }
                at++;
            }
            Check.due("numbers of " + sort, at, sort.equals("plunge") ? 4 : 1);
        }
        Check.due("tender", faultOf("plunge warm 0 chill 0 ice 0 visits 0;bather a tender bears 0;bather b hardy bears 0"), 0);
    }

    private static String textWith(String sort, String line, String bathers) {
        String filled = line.replaceAll("\\d+\\.\\.\\d+", "1");
        if (sort.equals("plunge")) {
            return filled + bathers;
        }
        String head = "plunge warm 0 chill 0 ice 0 visits 0";
        if (sort.equals("bather")) {
            return head + ";" + filled.replace("NAME", "c");
        }
        return head + bathers + ";" + filled.replaceFirst("NAME", "a").replaceFirst("NAME", "b");
    }

    private static int faultOf(String text) {
        ColdPlunge x = new ColdPlunge();
        Check.tell(x, text);
        return x.fault();
    }

    // ---- the calls, and what is refused

    private static void calls(String page) throws IOException {
        Check.part("the calls");
        String document = Files.readString(DOCUMENT);
        Set<String> named = new TreeSet<>();
        Matcher groups = Pattern.compile("Ahead of the calls ([^\n]*) the interface says: ---- ([^\n]*)\\.").matcher(document);
        int many = 0;
        while (groups.find()) {
            many++;
            String row = "\n| " + groups.group(2) + " | " + groups.group(1).replace(",", "") + " |\n";
            Check.due("the row of " + groups.group(2), page.contains(row), true);
            Matcher names = Pattern.compile("`(\\w+)`").matcher(groups.group(1));
            while (names.find()) {
                named.add(names.group(1));
            }
        }
        Check.due("parts", many, 9);
        for (Method method : ColdPlunge.class.getDeclaredMethods()) {
            if (Modifier.isPublic(method.getModifiers())) {
                Check.due(method.getName() + " stands in a part", named.remove(method.getName()), true);
            }
        }
        Check.due("calls that there aren't: " + named, named.isEmpty(), true);
    }

    private static void numbering() {
        Check.part("from 0 on");
        ColdPlunge x = Check.of("plunge warm 5 chill 0 ice 0 visits 0;bather a plain bears 9;bather b plain bears 9;unsure a b by 4;felt 9, a, b");
        x.come(0);
        x.come(1);
        Check.due("led(0)", Check.led(x, 0), 0);
        Check.due("ask()", x.ask(), 0);
        Check.due("fitAt(0)", x.fitAt(0), 1);
        Check.due("judge()", x.judge(), 0);
        Check.due("image()", x.image(), 0);
        Check.due("restAt(0)", x.restAt(0), 0);
        ColdPlunge y = Check.of("plunge warm 5 chill 0 ice 0 visits 0;bather a plain bears 5");
        Check.due("bathOf(0)", y.bathOf(0), 0);
        Check.due("comesAt(1, 0)", y.comesAt(1, 0), 0);
    }

    private static void refusals() {
        Check.part("what is refused");
        ColdPlunge x = Check.of("plunge warm 5 chill 0 ice 0 visits 0;bather a plain bears 0;bather b plain bears 0");
        Check.due("company()", x.company(), 0);
        Check.refused(x, "not refused", x.toSend(), -2, 0);
        Check.refused(x, "no such bather", x.mates(2), ColdPlunge.NONE, 1);
        Check.refused(x, "no i-th", x.fitAt(1), ColdPlunge.NONE, 1);
        Check.refused(x, "ties", x.ties(0, 0), -100, 1);
        Check.refused(x, "swim", x.swim(10, true, true, true), -100, 2);
        Check.refused(x, "introduce", x.introduce(0, 1), 6);
        Check.refused(x, "undo", x.undo(), 6);
        Check.refused(x, "back", x.back(0), 1);
        Check.refused(x, "a number", x.warmth(4), ColdPlunge.NONE, 2);
        Check.refused(x, "not so", x.minute(), ColdPlunge.NONE, 5);
        x.image();
        x.image();
        x.image();
        Check.refused(x, "no room", x.image(), ColdPlunge.NONE, 3);
        x.feed(0, 0, 0, 0, 0);
        Check.refused(x, "a fault", x.plunge(20), ColdPlunge.NONE, 4);
        Check.due("the text is off the tape", x.size(13), 0);
        Check.due("fault() tells of it", x.fault(), 1);
        Check.due("where() tells of it", x.where(), 0);
        ColdPlunge y = new ColdPlunge();
        Check.refused(y, "no plunge", y.company(), ColdPlunge.NONE, 1);
    }

    private static void faults() {
        Check.part("the faults");
        String head = "plunge warm 0 chill 0 ice 0 visits 0";
        String one = head + ";bather a plain bears 0";
        Check.due("no fault", faultOf(one), 0);
        Check.due("form", faultOf(one + ";"), 1);
        Check.due("a name that isn't told", faultOf(one + ";knows b a by 1"), 2);
        Check.due("told again", faultOf(one + ";bather a plain bears 0"), 3);
        Check.due("out of bounds", faultOf(one + ";felt 201"), 4);
        Check.due("too many", faultOf(one + ";felt 0".repeat(5)), 5);
        Check.due("a line ahead of the plunge", faultOf("felt 0;" + one), 6);
        Check.due("no bather", faultOf(head), 6);
    }

    private static void neverRefused() {
        Check.part("what leaves trouble() alone");
        ColdPlunge x = new ColdPlunge();
        x.plunge(-1);
        Check.due("trouble()", x.trouble(), 2);
        for (int i = 0; i < 46; i++) {
            x.feed(0, 0, 0, 0, 0);
        }
        Check.due("feed() without room", x.feed(0, 0, 0, 0, 0), ColdPlunge.NONE);
        x.fault();
        x.where();
        Check.due("size() of what it doesn't know", x.size(99), ColdPlunge.NONE);
        Check.due("led() throws", Check.led(x, 0), -1000);
        Check.due("trouble() then", x.trouble(), 2);
        ColdPlunge y = Check.of("plunge warm 5 chill 0 ice 0 visits 0;bather a plain bears 0;bather b plain bears 0;foes a b by 2");
        Check.refused(y, "ties() of foes by 2", y.ties(0, 1), -2, 0);
        Check.refused(y, "swim() of one near alone", y.swim(0, true, false, false), -2, 0);
    }

    // ---- what it names

    private static void classes(String page) {
        Check.part("how it is built");
        String built = page.substring(page.indexOf("## How it is built"), page.indexOf("## Tests"));
        Set<String> named = new TreeSet<>();
        Matcher m = Pattern.compile("`([A-Z]\\w+)`").matcher(built);
        while (m.find()) {
            named.add(m.group(1));
        }
        for (Class<?> one : ColdPlunge.class.getDeclaredClasses()) {
            Check.due(one.getSimpleName() + " is told of", named.remove(one.getSimpleName()), true);
        }
        Check.due("classes that there aren't: " + named, named.isEmpty(), true);
    }

    private static void tests(String page) throws IOException {
        Check.part("tests");
        String told = page.substring(page.indexOf("## Tests"));
        try (Stream<Path> files = Files.list(TESTS)) {
            for (Path file : files.toList()) {
                String name = file.getFileName().toString().replace(".java", "");
                boolean runs = Files.readString(file).contains("\n    public static void main(");
                Check.due(name + " is told of", told.contains("\n- `" + name + "`:"), runs);
            }
        }
        Matcher m = Pattern.compile("`([A-Z][a-z]\\w+)`").matcher(told);
        while (m.find()) {
            Check.due("there is " + m.group(1), Files.exists(TESTS.resolve(m.group(1) + ".java")), true);
        }
        Check.due(".ci/run can be run", Files.isExecutable(Path.of(".ci/run")), true);
    }

    private static void files(String page) {
        Check.part("files");
        Matcher m = Pattern.compile("`([.\\w]+/[./\\w]+)`").matcher(page);
        int many = 0;
        while (m.find()) {
            many++;
            Check.due("there is " + m.group(1), Files.exists(Path.of(m.group(1))), true);
        }
        Check.due("some files are named", many >= 5, true);
    }
}
