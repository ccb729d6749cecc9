import java.io.IOException;
import java.lang.management.ManagementFactory;
import java.lang.reflect.Constructor;
import java.lang.reflect.Field;
import java.lang.reflect.Method;
import java.lang.reflect.Modifier;
import java.nio.file.Files;
import java.nio.file.Path;
import java.util.NoSuchElementException;
import java.util.Set;
import java.util.TreeSet;
import java.util.regex.Matcher;
import java.util.regex.Pattern;

/** The face of the document, the rules of LANGUAGE.md that can be seen from the file, and that calls make no objects. */
public final class RuleTests {
    private static final Path FILE = Path.of("src/main/java/ColdPlunge.java");
    private static final Path DOCUMENT = Path.of("../shared/DOC.md");
    private static long kept;

    private RuleTests() {
    }

    public static void main(String[] args) throws IOException {
        face();
        constant();
        thrown();
        parts();
        names();
        words();
        lengths();
        room();
        Check.end();
    }

    private static void face() throws IOException {
        Check.part("rule 1, the face");
        String text = Files.readString(DOCUMENT);
        Set<String> due = new TreeSet<>();
        Matcher m = Pattern.compile("public (\\w+ \\w+\\([^)]*\\))").matcher(text);
        while (m.find()) {
            due.add(m.group(1).replaceAll(" (?!\\w+\\()\\w+(?=[,)])", ""));
        }
        Check.due("methods in the document", due.size(), 64);
        Set<String> got = new TreeSet<>();
        for (Method method : ColdPlunge.class.getDeclaredMethods()) {
            if (Modifier.isPrivate(method.getModifiers())) {
                continue;
            }
            Check.due("only public: " + method, Modifier.isPublic(method.getModifiers()), true);
            StringBuilder types = new StringBuilder();
            for (Class<?> type : method.getParameterTypes()) {
                types.append(types.length() == 0 ? "" : ", ").append(type.getName());
            }
            got.add(method.getReturnType().getName() + " " + method.getName() + "(" + types + ")");
        }
        for (String method : due) {
            Check.due("there is " + method, got.contains(method), true);
        }
        for (String method : got) {
            Check.due("due is " + method, due.contains(method), true);
        }
        for (Constructor<?> maker : ColdPlunge.class.getDeclaredConstructors()) {
            Check.due("constructor " + maker, Modifier.isPublic(maker.getModifiers()) && maker.getParameterCount() == 0, true);
        }
        for (Field field : ColdPlunge.class.getDeclaredFields()) {
            boolean open = !Modifier.isPrivate(field.getModifiers());
            Check.due("field " + field, open, field.getName().equals("NONE"));
        }
        Check.due("final", Modifier.isFinal(ColdPlunge.class.getModifiers()), true);
    }

    /** `NONE = -1`, as the face writes it. */
    private static void constant() throws IOException {
        Check.part("the constant");
        Check.due("NONE", ColdPlunge.NONE, -1);
        boolean written = Files.readString(DOCUMENT).contains("public static final int NONE = -1;");
        Check.due("the document writes it so", written, true);
        Field[] open = ColdPlunge.class.getFields();
        Check.due("public constants", open.length, 1);
        for (Field field : open) {
            int modifiers = field.getModifiers();
            Check.due(field + " is a constant", Modifier.isStatic(modifiers) && Modifier.isFinal(modifiers), true);
            Check.due(field + " is an int", field.getType() == int.class, true);
        }
    }

    /** Only led() says that it throws, and only what the face says. */
    private static void thrown() {
        Check.part("what the face throws");
        for (Method method : ColdPlunge.class.getDeclaredMethods()) {
            Class<?>[] thrown = method.getExceptionTypes();
            boolean led = method.getName().equals("led");
            Check.due("exceptions of " + method.getName(), thrown.length, led ? 1 : 0);
            if (led && thrown.length == 1) {
                Check.due("that of led", thrown[0] == NoSuchElementException.class, true);
            }
        }
    }

    /** The calls stand in the document's order, each part under the line that the interface says ahead of it. */
    private static void parts() throws IOException {
        Check.part("the parts of the interface");
        String document = Files.readString(DOCUMENT);
        StringBuilder due = new StringBuilder();
        Matcher m = Pattern.compile("Ahead of the calls ([^\n]*) the interface says: ([^\n]*)\\.").matcher(document);
        while (m.find()) {
            due.append("// ").append(m.group(2)).append('\n').append(m.group(1).replaceAll("[`,]", "").replace(' ', '\n')).append('\n');
        }
        StringBuilder got = new StringBuilder();
        for (String line : Files.readAllLines(FILE)) {
            Matcher call = Pattern.compile(" {4}public (?:int|long|boolean) (\\w+)\\(.*").matcher(line);
            if (call.matches()) {
                got.append(call.group(1)).append('\n');
            } else if (due.indexOf(line.trim() + "\n") >= 0 && line.startsWith("    // ----")) {
                got.append(line.trim()).append('\n');
            }
        }
        Check.due("the calls and parts in their order", got.toString().equals(due.toString()), true);
    }

    private static void names() {
        Check.part("rules 1, 2, 5, 11");
        Set<String> open = new TreeSet<>();
        for (Method method : ColdPlunge.class.getDeclaredMethods()) {
            if (Modifier.isPublic(method.getModifiers())) {
                open.add(method.getName());
            }
        }
        Class<?>[] inside = ColdPlunge.class.getDeclaredClasses();
        Check.due("at most twelve classes", inside.length < 12, true);
        look(ColdPlunge.class, open, false);
        for (Class<?> one : inside) {
            Check.due("static " + one, Modifier.isStatic(one.getModifiers()), true);
            look(one, open, true);
        }
    }

    private static void look(Class<?> one, Set<String> open, boolean inside) {
        int fields = 0;
        for (Field field : one.getDeclaredFields()) {
            boolean constant = Modifier.isStatic(field.getModifiers());
            fields += constant ? 0 : 1;
            Check.due("static fields are final: " + field, !constant || Modifier.isFinal(field.getModifiers()), true);
        }
        Check.due("some twenty fields: " + one, fields <= 20, true);
        for (Method method : one.getDeclaredMethods()) {
            Check.due("at most seven parameters: " + method, method.getParameterCount() <= 7, true);
            if (inside || Modifier.isPrivate(method.getModifiers())) {
                Check.due("no name of a public one: " + method, open.contains(method.getName()), false);
            }
        }
    }

    private static void words() throws IOException {
        Check.part("rules 4, 6, 13");
        String code = Files.readString(FILE).replaceAll("(?s)/\\*.*?\\*/|//[^\n]*", "");
        for (String word : new String[] {"->", "::", "\\bcatch\\b", "\\btry\\b", "\\bfinally\\b", "\\bsynchronized\\b", "\\bassert\\b",
            "\\bSystem\\b", "\\bRandom\\b", "Exact\\b", "\\bObject\\b", "\\bpackage\\b", "\\bprotected\\b", "\" \\+", "\\+ \"", "\\bfor \\(;;", "while \\(true"}) {
            Check.due("none of " + word, Pattern.compile(word).matcher(code).find(), false);
        }
        Matcher imports = Pattern.compile("import ([\\w.]+);").matcher(code);
        while (imports.find()) {
            Check.due("import", imports.group(1).equals("java.util.NoSuchElementException"), true);
        }
        Matcher throwing = Pattern.compile("throw new (\\w+)").matcher(code);
        int many = 0;
        while (throwing.find()) {
            many++;
            Check.due("throw", throwing.group(1).equals("NoSuchElementException"), true);
        }
        Check.due("led() alone throws", many, 1);
    }

    private static void lengths() throws IOException {
        Check.part("rule 11, lengths");
        String opening = "";
        int from = 0;
        int at = 0;
        for (String line : Files.readAllLines(FILE)) {
            at++;
            if (line.matches(" {4}( {4})?[\\w].*\\) (throws \\w+ )?\\{")) {
                opening = line;
                from = at;
            } else if (line.matches(" {4}( {4})?\\}") && from > 0) {
                Check.due("some sixty lines: " + opening, at - from + 1 <= 60, true);
                from = 0;
            }
        }
    }

    /** Objects are made by the constructor alone, so a run's room is what its objects take. */
    private static void room() {
        Check.part("rule 12, the room");
        com.sun.management.ThreadMXBean bean = (com.sun.management.ThreadMXBean) ManagementFactory.getThreadMXBean();
        ColdPlunge x = new ColdPlunge();
        for (int i = 0; i < 3; i++) {
            tell(x);
            calls(x);
        }
        long before = bean.getCurrentThreadAllocatedBytes();
        long nothing = bean.getCurrentThreadAllocatedBytes() - before;
        before = bean.getCurrentThreadAllocatedBytes();
        tell(x);
        calls(x);
        long made = bean.getCurrentThreadAllocatedBytes() - before - nothing;
        Check.due("bytes made by calls (" + made + ")", made < 256, true);
        before = bean.getCurrentThreadAllocatedBytes();
        x = new ColdPlunge();
        made = bean.getCurrentThreadAllocatedBytes() - before - nothing;
        Check.due("bytes of a new object (" + made + ")", made < 8192, true);
        kept += x.trouble();
    }

    private static void tell(ColdPlunge x) {
        // "plunge warm 9 chill 1 ice 3 visits 40  ;bather a plain bears 8;bather b hardy bears 12 ;felt 8,a,b "
        x.feed(0x706c756e, 0x67652077, 0x61726d20, 0x39206368, 0x696c6c20);
        x.feed(0x31206963, 0x65203320, 0x76697369, 0x74732034, 0x30202020);
        x.feed(0x3b626174, 0x68657220, 0x6120706c, 0x61696e20, 0x62656172);
        x.feed(0x7320383b, 0x62617468, 0x65722062, 0x20686172, 0x64792062);
        x.feed(0x65617273, 0x2031323b, 0x66656c74, 0x20382c61, 0x2c622020);
        if (x.plunge(100) != 2) {
            throw new IllegalStateException("fault " + x.fault() + " at " + x.where());
        }
    }

    private static void calls(ColdPlunge x) {
        long sum = x.come(0) + x.come(1) + x.get(0) + x.minute() + x.image();
        sum += (x.introduce(0, 1) ? 1 : 0) + (x.back(0) ? 1 : 0) + (x.undo() ? 1 : 0);
        sum += x.bather(0, 6) + x.ties(0, 1) + x.company() + x.warmth(3) + x.bear(3) + x.iced() + x.stays(3) + x.minutes(3);
        sum += x.spare(3) + x.closest() + x.loneliest() + x.mates(0) + x.most() + x.mostWith(1) + x.warmest(1) + x.coldest(2);
        sum += x.bearsWith(0) + x.spoils(0) + x.mends(1) + x.comes(3) + x.comesAt(3, 1) + x.snugs() + x.toCall() + x.toSend();
        sum += x.baths() + x.bathOf(1) + x.canMeet(0, 1) + x.meetings() + x.fewest(3) + x.firstMeeting(3) + x.between(0, 1);
        sum += x.circles() + x.fits() + x.fitAt(0) + x.could() + x.surely() + x.ask() + x.askLeaves() + x.chills() + x.judge();
        sum += x.rests() + x.restAt(0) + x.swim(3, true, false, true) + x.evens(3) + x.even(3) + x.odds(0, true) + x.mean(false);
        sum += x.icy(true) + x.mornings(0, 5, 60) + x.waits(5, 60) + x.size(5) + x.trouble() + x.fault() + x.where();
        kept += sum;
    }
}
