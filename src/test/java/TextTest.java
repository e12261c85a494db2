import java.util.ArrayList;
import java.util.List;
import java.util.Random;
import java.util.TreeSet;
import java.util.regex.Matcher;
import java.util.regex.Pattern;

/** Promises 4 to 6: spoiled texts, whose faults and places are found a second time with regular expressions. */
public final class TextTest {
    private static final String[] SEEDS = {Check.STATION, Check.ROW,
        "plain 9 9;point 1 9; plain 9 9;\nplain 60 1;point 1 9;plain 9 9;join 0 b 1 t;join 1 l 2 a;join 1 r 4 r;"
            + "join 4 l 3 b;join 4 t 5 a;signal 0 b;signal 3 b;signal 5 a;stop 0 7;stop 2 0;"};
    private static final String[] SCRAPS = {" ", ";", "a", "b", "t", "l", "r", "0", "1", "7", "8", "9", "60", "61",
        "00001", "plain", "point", "join", "signal", "stop", "plains", "abcdefghi", "\n", "A", "\t", "10", "3", "2",
        "plain 1 1;", "signal 2 b;", "stop 3 3;", "join 0 a 5 b;"};

    private static int sections;
    private static int fault;
    private static int place;

    public static void main(String[] args) {
        Random random = new Random(5);
        int[] seen = new int[9];
        for (int run = 0; run < 20000; run++) {
            String text = spoiled(SEEDS[random.nextInt(SEEDS.length)], random);
            if (text.length() > 1900) {
                continue;
            }
            RailwayHouse x = new RailwayHouse();
            int got = Check.load(x, text);
            read(text);
            seen[fault]++;
            Check.due("load of '" + text + "'", got, fault == 0 ? sections : -10 - fault);
            Check.due("place of '" + text + "'", x.place(), fault == 0 ? Check.NONE : place);
        }
        for (int f = 0; f <= 8; f++) {
            Check.due("fault " + f + " was met", seen[f] > 20);
        }
        Check.end("TextTest");
    }

    private static String spoiled(String seed, Random random) {
        StringBuilder text = new StringBuilder(seed);
        if (random.nextInt(20) == 0) {
            for (int i = 0; i < 19; i++) {
                text.insert(0, "plain 1 1;");
            }
        }
        if (random.nextInt(20) == 0) {
            for (int i = 0; i < 24; i++) {
                text.append("signal ").append(random.nextInt(6)).append(random.nextBoolean() ? " a;" : " b;");
            }
        }
        if (random.nextInt(20) == 0) {
            return " \n ".substring(random.nextInt(3));
        }
        for (int n = random.nextInt(3); n > 0; n--) {
            int from = random.nextInt(text.length());
            int to = Math.min(text.length(), from + random.nextInt(random.nextInt(3) == 0 ? 12 : 2));
            text.replace(from, to, random.nextInt(4) == 0 ? "" : SCRAPS[random.nextInt(SCRAPS.length)]);
            if (random.nextInt(10) == 0) {
                text.setLength(random.nextInt(text.length() + 1));
            }
            if (text.length() == 0) {
                return "";
            }
        }
        return text.toString();
    }

    private static void fail(int kind, int at) {
        if (fault == 0) {
            fault = kind;
            place = at;
        }
    }

    /** What each kind of statement wants: n a number, s a section, q a section that may have a stop, e an end. */
    private static void read(String text) {
        fault = 0;
        List<String> kinds = new ArrayList<>();
        TreeSet<String> joined = new TreeSet<>();
        List<String> signals = new ArrayList<>();
        TreeSet<Integer> stops = new TreeSet<>();
        List<String> statement = new ArrayList<>();
        Matcher m = Pattern.compile("[0-9]+|[a-z]+|[^ \n]", Pattern.DOTALL).matcher(text);
        while (fault == 0 && m.find()) {
            String token = m.group();
            boolean number = token.matches("[0-9]+");
            boolean word = token.matches("[a-z]+");
            if (!number && !word && !token.equals(";") || number && token.length() > 4 || word && token.length() > 8) {
                fail(1, m.start());
                break;
            }
            int k = statement.size();
            String head = k == 0 ? "" : statement.get(0);
            String due = head.isEmpty() ? "w" : head.equals("join") ? "wnwnw;" : head.equals("signal") ? "wnw;" : "wnn;";
            char kind = number ? 'n' : word ? 'w' : ';';
            if (due.charAt(k) != kind) {
                fail(2, m.start());
                break;
            }
            statement.add(token);
            int flaw = k == 0 ? headFlaw(token, kinds.size(), signals.size())
                    : flawOf(statement, kinds, joined, signals, stops);
            if (flaw != 0) {
                fail(flaw, m.start());
            }
            if (fault == 0 && kind == ';') {
                finish(statement, kinds, joined, signals, stops);
                statement.clear();
            }
        }
        if (!statement.isEmpty()) {
            fail(2, text.length());
        }
        for (String s : signals) {
            if (!joined.contains(s)) {
                fail(8, text.length());
            }
        }
        if (kinds.isEmpty()) {
            fail(8, text.length());
        }
        sections = kinds.size();
    }

    private static int headFlaw(String word, int sectionCount, int signalCount) {
        if (!word.matches("plain|point|join|signal|stop")) {
            return 3;
        }
        if (word.startsWith("p") && sectionCount == 24 || word.equals("signal") && signalCount == 16) {
            return 7;
        }
        return 0;
    }

    private static int flawOf(List<String> s, List<String> kinds, TreeSet<String> joined, List<String> signals,
            TreeSet<Integer> stops) {
        int k = s.size() - 1;
        String head = s.get(0);
        String token = s.get(k);
        if (token.equals(";")) {
            return 0;
        }
        if (head.startsWith("p")) {
            int n = Integer.parseInt(token);
            return n < 1 || n > (k == 1 ? 60 : 9) ? 4 : 0;
        }
        if (token.matches("[0-9]+")) {
            int n = Integer.parseInt(token);
            if (head.equals("stop") && k == 2) {
                return n > 7 ? 4 : 0;
            }
            if (n >= kinds.size()) {
                return 4;
            }
            if (head.equals("stop") && stops.contains(n)) {
                return 5;
            }
            return !head.equals("join") && kinds.get(n).equals("point") ? 6 : 0;
        }
        int section = Integer.parseInt(s.get(k - 1));
        if (!token.matches(kinds.get(section).equals("point") ? "[tlr]" : "[ab]")) {
            return 3;
        }
        String end = section + token;
        if (head.equals("join")) {
            return joined.contains(end) || k == 4 && end.equals(Integer.parseInt(s.get(1)) + s.get(2)) ? 5 : 0;
        }
        return signals.contains(end) ? 5 : 0;
    }

    private static void finish(List<String> s, List<String> kinds, TreeSet<String> joined, List<String> signals,
            TreeSet<Integer> stops) {
        String head = s.get(0);
        if (head.startsWith("p")) {
            kinds.add(head);
        } else if (head.equals("join")) {
            joined.add(Integer.parseInt(s.get(1)) + s.get(2));
            joined.add(Integer.parseInt(s.get(3)) + s.get(4));
        } else if (head.equals("signal")) {
            signals.add(Integer.parseInt(s.get(1)) + s.get(2));
        } else {
            stops.add(Integer.parseInt(s.get(1)));
        }
    }
}
