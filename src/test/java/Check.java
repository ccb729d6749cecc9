import java.util.NoSuchElementException;

/** Counts what is as due, and tells what isn't. */
final class Check {
    private static int passed = 0;
    private static int failed = 0;
    private static String part = "";

    private Check() {
    }

    static void part(String name) {
        part = name;
    }

    static int count() {
        return passed + failed;
    }

    static void due(String call, long got, long want) {
        if (got == want) {
            passed++;
        } else {
            failed++;
            System.out.println(part + ": " + call + " answered " + got + ", due is " + want);
        }
    }

    static void due(String call, boolean got, boolean want) {
        due(call, got ? 1 : 0, want ? 1 : 0);
    }

    /** A refused call: its answer, and what trouble() tells then. */
    static void refused(ColdPlunge x, String call, long got, long want, int trouble) {
        due(call, got, want);
        due(call + ", trouble()", x.trouble(), trouble);
    }

    static void refused(ColdPlunge x, String call, boolean got, int trouble) {
        refused(x, call, got ? 1 : 0, 0, trouble);
    }

    /** led() with -1000 for its exception. */
    static int led(ColdPlunge x, int i) {
        try {
            return x.led(i);
        } catch (NoSuchElementException e) {
            return -1000;
        }
    }

    /** Feeds a text, with blanks behind it, and answers how many bytes the tape has. */
    static int feedText(ColdPlunge x, String text) {
        int answer = x.size(13);
        for (int at = 0; at < text.length(); at += 20) {
            int[] numbers = new int[5];
            for (int i = 0; i < 20; i++) {
                int sign = at + i < text.length() ? text.charAt(at + i) & 255 : ' ';
                numbers[i / 4] = numbers[i / 4] << 8 | sign;
            }
            answer = x.feed(numbers[0], numbers[1], numbers[2], numbers[3], numbers[4]);
        }
        return answer;
    }

    static int tell(ColdPlunge x, String text) {
        feedText(x, text);
        return x.plunge(text.length());
    }

    static ColdPlunge of(String text) {
        ColdPlunge x = new ColdPlunge();
        int bathers = tell(x, text);
        if (bathers < 1) {
            failed++;
            System.out.println(part + ": fault " + x.fault() + " at " + x.where() + " in " + text);
        }
        return x;
    }

    static void end() {
        System.out.println(passed + " passed, " + failed + " failed");
        if (failed != 0) {
            System.exit(1);
        }
    }
}
