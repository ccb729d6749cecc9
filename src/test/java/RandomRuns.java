import java.util.ArrayList;
import java.util.List;
import java.util.Random;

/** Random texts and random runs of calls, each answer held against Naive. The seeds are written down, so each run is the same again. */
public final class RandomRuns {
    private static final String[] NAMES = {"a", "bo", "cy", "warm", "by", "plain", "zzzzzzzz", "tender"};
    private static final int METHODS = 62;

    private final Random random;
    private final ColdPlunge x = new ColdPlunge();
    private final Naive model = new Naive();
    private int bathers = 0;

    private RandomRuns(long seed) {
        random = new Random(seed);
    }

    public static void main(String[] args) {
        int runs = args.length > 0 ? Integer.parseInt(args[0]) : 1200;
        for (int seed = 0; seed < runs; seed++) {
            Check.part("run " + seed);
            new RandomRuns(seed).run();
            Check.part("faults " + seed);
            new RandomRuns(seed).faults();
        }
        Check.end();
    }

    private int below(int n) {
        return random.nextInt(n);
    }

    private boolean chance(int hundredths) {
        return below(100) < hundredths;
    }

    // ---- texts

    private String text() {
        int many = chance(60) ? 4 + below(3) : 1 + below(6);
        int warm = chance(50) ? below(20) : below(61);
        int chill = chance(60) ? below(4) : below(10);
        List<String> lines = new ArrayList<>();
        lines.add("plunge warm " + warm + " chill " + chill + " ice " + below(31) + " visits " + visits());
        List<String> names = new ArrayList<>();
        for (int b = 0; b < many; b++) {
            String name = NAMES[below(NAMES.length)];
            while (names.contains(name)) {
                name = NAMES[below(NAMES.length)];
            }
            names.add(name);
            int bears = chance(70) ? Math.max(0, warm - 6 + below(16)) : chance(50) ? below(12) : below(100);
            lines.add("bather " + name + " " + new String[] {"plain", "tender", "hardy"}[below(3)] + " bears " + bears);
        }
        int[][] worth = new int[many][many];
        int unsures = 0;
        int density = 20 + below(70);
        for (int b = 0; b < many; b++) {
            for (int other = 0; other < b; other++) {
                if (chance(density)) {
                    String sort = new String[] {"knows", "knows", "foes", "unsure"}[below(4)];
                    int by = 1 + below(9);
                    if (sort.equals("unsure") && ++unsures > 4) {
                        sort = "knows";
                    }
                    worth[b][other] = sort.equals("knows") ? by : sort.equals("foes") ? -by : chance(50) ? by : -chill;
                    lines.add(1 + many + below(lines.size() - many), sort + " " + names.get(b) + " " + names.get(other) + " by " + by);
                } else {
                    worth[b][other] = -chill;
                }
            }
        }
        for (int i = below(5); i > 0; i--) {
            lines.add(felt(names, worth, warm));
        }
        return spaced(String.join(";", lines));
    }

    private int visits() {
        return chance(20) ? 0 : chance(20) ? 100 : chance(30) ? 50 : below(101);
    }

    private String felt(List<String> names, int[][] worth, int warm) {
        StringBuilder line = new StringBuilder();
        int sum = warm;
        List<Integer> who = new ArrayList<>();
        int likely = 30 + below(60);
        for (int b = 0; b < names.size(); b++) {
            if (chance(likely)) {
                for (int other : who) {
                    sum += worth[b][other];
                }
                who.add(b);
                line.insert(0, "," + names.get(b));
            }
        }
        int told = chance(90) ? Math.max(0, sum) : below(201);
        return "felt " + told + line;
    }

    /** Blanks more or less where they mean nothing. */
    private String spaced(String text) {
        if (chance(50)) {
            return text;
        }
        return text.replace(";", chance(50) ? " ; " : "; ").replace(",", chance(50) ? " , " : ", ");
    }

    private String broken(String text) {
        StringBuilder out = new StringBuilder(text);
        for (int times = 1 + below(2); times > 0; times--) {
            int at = below(out.length());
            switch (below(8)) {
                case 0 -> out.deleteCharAt(at);
                case 1 -> out.insert(at, (char) below(256));
                case 2 -> out.setCharAt(at, " ;,azbA09".charAt(below(9)));
                case 3 -> out.setLength(at + 1);
                case 4 -> out.insert(at, NAMES[below(NAMES.length)]);
                case 5 -> out.insert(at, new String[] {" ", ";felt 3", ";unsure a bo by 3", ";bather a plain bears 1", "99"}[below(5)]);
                case 6 -> swapTokens(out);
                default -> out.append(new String[] {";", " ", ",", ";plunge", ";knows a bo by 1", ";foes bo cy by 10", ";felt 200,a,bo,a",
                    ";felt 1;felt 2;felt 3;felt 4;felt 5", ";felt felt", ";bather q plain bears 7;bather r plain bears 7;bather s plain bears 7"}[below(10)]);
            }
        }
        return out.length() > 900 ? out.substring(0, 900) : out.toString();
    }

    private void swapTokens(StringBuilder out) {
        String[] words = out.toString().split(" ");
        int one = below(words.length);
        int other = below(words.length);
        String kept = words[one];
        words[one] = words[other];
        words[other] = kept;
        out.setLength(0);
        out.append(String.join(" ", words));
    }

    private void feedBoth(String text) {
        for (int at = 0; at < text.length(); at += 20) {
            int[] n = new int[5];
            for (int i = 0; i < 20; i++) {
                n[i / 4] = n[i / 4] << 8 | (at + i < text.length() ? text.charAt(at + i) & 255 : ' ');
            }
            Check.due("feed", x.feed(n[0], n[1], n[2], n[3], n[4]), model.feed(n[0], n[1], n[2], n[3], n[4]));
        }
    }

    private void tellBoth(String text) {
        feedBoth(text);
        int n = text.length();
        Check.due("plunge of " + text, x.plunge(n), model.plunge(n));
        same("plunge of " + text);
        bathers = model.count();
    }

    private void same(String call) {
        Check.due(call + ", trouble()", x.trouble(), model.trouble);
        Check.due(call + ", fault()", x.fault(), model.fault);
        Check.due(call + ", where()", x.where(), model.where());
    }

    // ---- runs

    private void faults() {
        for (int i = 0; i < 6; i++) {
            tellBoth(broken(text()));
            for (int what = -1; what < 15; what++) {
                Check.due("size(" + what + ")", x.size(what), model.size(what));
            }
        }
    }

    private void run() {
        if (chance(20)) {
            feedBoth("xxx");
            int n = below(30);
            Check.due("plunge(" + n + ")", x.plunge(n), model.plunge(n));
            same("plunge(" + n + ")");
        }
        if (chance(95)) {
            tellBoth(text());
        }
        for (int i = 0; i < 100; i++) {
            int method = chance(30) ? 45 + below(8) : chance(8) ? 28 + below(2) : below(METHODS);
            call(method);
            if (chance(1)) {
                tellBoth(chance(50) ? text() : broken(text()));
            }
        }
    }

    private int wild() {
        return new int[] {-1, -2, 64, 200, Integer.MIN_VALUE, Integer.MAX_VALUE, 6, 31}[below(8)];
    }

    private int someBather() {
        return chance(5) || bathers == 0 ? wild() : below(bathers);
    }

    private int someSet() {
        return chance(5) || bathers == 0 ? wild() : chance(20) ? (1 << bathers) - 1 : below(1 << bathers);
    }

    private int some(int greatest) {
        return chance(5) ? wild() : below(greatest + 1);
    }

    private void call(int method) {
        int b = someBather();
        int o = someBather();
        int s = someSet();
        int i = some(7);
        int seed = chance(5) ? new int[] {-1, 65536, 65537, 0}[below(4)] : below(65537);
        int n = chance(5) ? new int[] {-1, 60, 61, 0}[below(4)] : below(20);
        boolean p = chance(50);
        boolean q = chance(50);
        boolean r = chance(50);
        String args = "method " + method + " of b " + b + " o " + o + " s " + s + " i " + i + " seed " + seed + " n " + n
            + " " + p + " " + q + " " + r;
        if (method < 31) {
            early(args, method, b, o, s, i);
        } else if (method < 45) {
            middle(args, method, b, i, seed, n, new boolean[] {p, q, r});
        } else {
            late(args, method, b, o, s, i);
        }
        same(args);
    }

    private void early(String args, int method, int b, int o, int s, int i) {
        switch (method) {
            case 0 -> Check.due(args, x.bather(b, i), model.bather(b, i));
            case 1 -> Check.due(args, x.ties(b, o), model.ties(b, o));
            case 2 -> Check.due(args, x.company(), model.company());
            case 3 -> Check.due(args, x.warmth(s), model.warmth(s));
            case 4 -> Check.due(args, x.bear(s), model.bear(s));
            case 5 -> Check.due(args, x.iced(), model.iced());
            case 6 -> Check.due(args, x.stays(s), model.stays(s));
            case 7 -> Check.due(args, x.minutes(s), model.minutes(s));
            case 8 -> Check.due(args, x.spare(s), model.spare(s));
            case 9 -> Check.due(args, x.closest(), model.closest());
            case 10 -> Check.due(args, x.loneliest(), model.loneliest());
            case 11 -> Check.due(args, x.mates(b), model.mates(b));
            case 12 -> Check.due(args, x.most(), model.most());
            case 13 -> Check.due(args, x.mostWith(b), model.mostWith(b));
            case 14 -> Check.due(args, x.warmest(i), model.warmest(i));
            case 15 -> Check.due(args, x.coldest(i), model.coldest(i));
            case 16 -> Check.due(args, x.bearsWith(b), model.bearsWith(b));
            case 17 -> Check.due(args, x.spoils(b), model.spoils(b));
            case 18 -> Check.due(args, x.mends(b), model.mends(b));
            case 19 -> Check.due(args, x.comes(s), model.comes(s));
            case 20 -> Check.due(args, x.comesAt(s, i), model.comesAt(s, i));
            case 21 -> Check.due(args, x.snugs(), model.snugs());
            case 22 -> Check.due(args, x.toCall(), model.toCall());
            case 23 -> Check.due(args, x.toSend(), model.toSend());
            case 24 -> Check.due(args, x.baths(), model.baths());
            case 25 -> Check.due(args, x.bathOf(b), model.bathOf(b));
            case 26 -> Check.due(args, x.canMeet(b, o), model.canMeet(b, o));
            case 27 -> Check.due(args, x.meetings(), model.meetings());
            case 28 -> Check.due(args, x.fewest(s), model.fewest(s));
            case 29 -> Check.due(args, x.firstMeeting(s), model.firstMeeting(s));
            default -> Check.due(args, x.between(b, o), model.between(b, o));
        }
    }

    private void middle(String args, int method, int b, int i, int seed, int n, boolean[] flags) {
        switch (method) {
            case 31 -> Check.due(args, x.circles(), model.circles());
            case 32 -> Check.due(args, x.fits(), model.fits());
            case 33 -> Check.due(args, x.fitAt(i), model.fitAt(i));
            case 34 -> Check.due(args, x.could(), model.could());
            case 35 -> Check.due(args, x.surely(), model.surely());
            case 36 -> Check.due(args, x.ask(), model.ask());
            case 37 -> Check.due(args, x.askLeaves(), model.askLeaves());
            case 38 -> Check.due(args, x.chills(), model.chills());
            case 39 -> Check.due(args, x.judge(), model.judge());
            case 40 -> Check.due(args, x.rests(), model.rests());
            case 41 -> Check.due(args, x.restAt(i), model.restAt(i));
            case 42 -> {
                Check.due(args, x.swim(i, flags[0], flags[1], flags[2]), model.swim(i, flags[0], flags[1], flags[2]));
                Check.due(args, x.evens(i), model.evens(i));
                Check.due(args, x.even(i), model.even(i));
            }
            case 43 -> Check.due(args, x.mornings(b, seed, n), model.mornings(b, seed, n));
            default -> Check.due(args, x.waits(seed, n), model.waits(seed, n));
        }
    }

    private void late(String args, int method, int b, int o, int s, int i) {
        switch (method) {
            case 45, 46 -> Check.due(args, x.come(b), model.come(b));
            case 47 -> Check.due(args, x.get(b), model.get(b));
            case 48, 49 -> Check.due(args, x.introduce(b, o), model.introduce(b, o));
            case 50 -> Check.due(args, x.minute(), model.minute());
            case 51 -> Check.due(args, x.undo(), model.undo());
            case 52 -> {
                if (chance(50)) {
                    Check.due(args, x.image(), model.image());
                } else if (chance(50)) {
                    Check.due(args, x.back(i), model.back(i));
                }
            }
            case 53 -> Check.due(args, x.odds(b, false), model.odds(b, false));
            case 54 -> Check.due(args, x.odds(b, true), model.odds(b, true));
            case 55 -> Check.due(args, x.mean(false), model.mean(false));
            case 56 -> Check.due(args, x.mean(true), model.mean(true));
            case 57 -> Check.due(args, x.icy(false), model.icy(false));
            case 58 -> Check.due(args, x.icy(true), model.icy(true));
            case 59 -> Check.due(args, Check.led(x, i), model.led(i));
            default -> {
                for (int what = -1; what < 15; what++) {
                    Check.due(args + " size " + what, x.size(what), model.size(what));
                }
            }
        }
    }
}
