import java.util.ArrayList;
import java.util.List;
import java.util.Map;

/**
 * The document once more, in the plainest form: all that is so in lists, copies of all of it for what is undone and kept,
 * all ways tried out. Names of its calls are those of the class. It needs texts without a fault to be read by lines.
 */
final class Model {
    private static final int NONE = -1;

    /** All that is so. */
    static final class So {
        List<String> streets = new ArrayList<>();
        List<String> hands = new ArrayList<>();
        List<String> questions = new ArrayList<>();
        int[] home = new int[10];
        int[] irons = new int[10];
        int[] coin = new int[10];
        boolean[] child = new boolean[10];
        boolean[] silent = new boolean[10];
        int[][] wants = new int[10][5];
        int[][] grants = new int[5][5];
        int[] sand = new int[2];
        int[] echo = new int[2];
        int price = 2;
        int wage = 1;
        int[] how = new int[5];
        int[] when = new int[5];
        int[] louder = new int[5];
        int day;
        int weather;

        So() {
            for (int q = 0; q < 5; q++) {
                when[q] = NONE;
                louder[q] = NONE;
                for (int h = 0; h < 10; h++) {
                    wants[h][q] = -2;
                }
            }
        }

        So copy() {
            So other = new So();
            other.streets.addAll(streets);
            other.hands.addAll(hands);
            other.questions.addAll(questions);
            other.home = home.clone();
            other.irons = irons.clone();
            other.coin = coin.clone();
            other.child = child.clone();
            other.silent = silent.clone();
            for (int h = 0; h < 10; h++) {
                other.wants[h] = wants[h].clone();
            }
            for (int q = 0; q < 5; q++) {
                other.grants[q] = grants[q].clone();
            }
            other.sand = sand.clone();
            other.echo = echo.clone();
            other.price = price;
            other.wage = wage;
            other.how = how.clone();
            other.when = when.clone();
            other.louder = louder.clone();
            other.day = day;
            other.weather = weather;
            return other;
        }

        int loud(int h, int w) {
            int loud = irons[h] * (child[h] ? 2 : 1);
            loud = weather == 1 ? loud / 2 : loud;
            return silent[h] ? 0 : Math.max(loud - sand[w], 0);
        }

        /** goes[h]: the way of each hand, or another number. */
        int noise(int[] goes, int w) {
            int sum = 0;
            for (int h = 0; h < hands.size(); h++) {
                sum += goes[h] == w ? loud(h, w) : 0;
            }
            return sum + (sum > 0 ? echo[w] : 0);
        }

        int ahead(int[] goes) {
            return noise(goes, 0) - noise(goes, 1);
        }

        int[] goes(int q) {
            int[] goes = new int[10];
            for (int h = 0; h < 10; h++) {
                goes[h] = wants[h][q];
            }
            return goes;
        }

        int buy(int h, int n) {
            if (coin[h] < n * price) {
                return 1;
            }
            if (irons[h] + n > 20) {
                return 2;
            }
            coin[h] -= n * price;
            irons[h] += n;
            return 0;
        }

        int strikes(int h, boolean on) {
            if (silent[h] == on) {
                return 1;
            }
            silent[h] = on;
            return 0;
        }

        int sway(int h, int q, int w) {
            if (how[q] != 0) {
                return 1;
            }
            if (wants[h][q] == w) {
                return 2;
            }
            wants[h][q] = w;
            return 0;
        }

        boolean putToday() {
            for (int q = 0; q < questions.size(); q++) {
                if (when[q] == day) {
                    return true;
                }
            }
            return false;
        }

        int put(int q) {
            if (how[q] != 0) {
                return 1;
            }
            if (weather == 2) {
                return 2;
            }
            if (putToday()) {
                return 3;
            }
            int ahead = ahead(goes(q));
            how[q] = ahead > 0 ? 1 : 2;
            when[q] = day;
            louder[q] = Math.abs(ahead);
            if (ahead > 0) {
                grant(q);
            }
            return 0;
        }

        void grant(int q) {
            for (int h = 0; h < hands.size(); h++) {
                irons[h] = Math.min(20, irons[h] + grants[q][home[h]]);
            }
        }

        int lay(int w, int n) {
            if (sand[w] == n) {
                return 1;
            }
            sand[w] = n;
            return 0;
        }

        int turn(int k) {
            if (weather == k) {
                return 1;
            }
            weather = k;
            return 0;
        }

        int days(int n) {
            int gone = 0;
            for (; gone < n && day < 400; gone++) {
                for (int h = 0; h < hands.size(); h++) {
                    coin[h] = silent[h] ? coin[h] : Math.min(999, coin[h] + wage);
                }
                weather = 0;
                day++;
            }
            return gone;
        }

        int drawn(int n, int seed) {
            int[] x = {seed};
            int gone = 0;
            for (; gone < n && day < 400; gone++) {
                weather = draw(x, 3);
                for (int h = 0; h < hands.size(); h++) {
                    int drawn = draw(x, 10);
                    if (drawn == 0) {
                        silent[h] = !silent[h];
                    } else if (drawn == 1) {
                        buy(h, 1);
                    }
                }
                if (!questions.isEmpty()) {
                    put(draw(x, questions.size()));
                }
                days(1);
            }
            return gone;
        }

        private static int draw(int[] x, int n) {
            x[0] = x[0] * 1103515245 + 12345;
            return (x[0] >>> 8) % n;
        }

        int bits(int result) {
            int bits = 0;
            for (int q = 0; q < questions.size(); q++) {
                bits |= how[q] == result ? 1 << q : 0;
            }
            return bits;
        }
    }

    So so = new So();
    String saying;
    private final List<So> past = new ArrayList<>();
    private final So[] kept = new So[2];
    private final String[] keptSaying = new String[2];
    final StringBuilder tape = new StringBuilder();
    int fault;
    int won = NONE;
    int wonStreets = NONE;
    int[] buys = new int[0];
    List<Integer> agenda = new ArrayList<>();
    int surely = NONE;
    int ask = NONE;
    String cry = "";
    int[] told = {NONE, NONE, NONE, NONE};

    boolean isHand(int h) {
        return h >= 0 && h < so.hands.size();
    }

    boolean isQuestion(int q) {
        return q >= 0 && q < so.questions.size();
    }

    private static boolean isWay(int w) {
        return w == 0 || w == 1;
    }

    private int done(So before, boolean isDone, int answer) {
        if (isDone) {
            past.add(before);
            if (past.size() > 8) {
                past.remove(0);
            }
        }
        return answer;
    }

    private String read() {
        String text = tape.toString();
        tape.setLength(0);
        return text;
    }

    private Map<String, String> names() {
        Map<String, String> names = new java.util.HashMap<>();
        so.streets.forEach(name -> names.put(name, "s"));
        so.hands.forEach(name -> names.put(name, "h"));
        so.questions.forEach(name -> names.put(name, "q"));
        return names;
    }

    /** Lines of a text without a fault, each as its tokens. */
    private static List<String[]> lines(String text) {
        List<String[]> lines = new ArrayList<>();
        for (String line : text.replace('\n', ' ').split(";")) {
            if (!line.isBlank()) {
                lines.add(line.trim().split(" +"));
            }
        }
        return lines;
    }

    int valley() {
        String text = read();
        TextReader reader = TextReader.ofValley(text);
        fault = reader.kind;
        if (reader.kind != 0) {
            return -1 - reader.place;
        }
        so = new So();
        saying = null;
        past.clear();
        for (String[] line : lines(text)) {
            tell(line);
        }
        return reader.found;
    }

    private void tell(String[] line) {
        int last = line[line.length - 1].matches("[0-9]+") ? Integer.parseInt(line[line.length - 1]) : 0;
        int w = line.length > 1 && line[1].equals("right") ? 1 : 0;
        switch (line[0]) {
            case "street": so.streets.add(line[1]); break;
            case "question": so.questions.add(line[1]); break;
            case "hand":
                int h = so.hands.size();
                so.hands.add(line[1]);
                so.home[h] = so.streets.indexOf(line[2]);
                so.irons[h] = Integer.parseInt(line[3]);
                so.coin[h] = Integer.parseInt(line[4]);
                so.child[h] = line.length > 5;
                break;
            case "wants":
                so.wants[so.hands.indexOf(line[1])][so.questions.indexOf(line[2])] = line[3].equals("left") ? 0 : 1;
                break;
            case "grants": so.grants[so.questions.indexOf(line[1])][so.streets.indexOf(line[2])] = last; break;
            case "sand": so.sand[w] = last; break;
            case "echo": so.echo[w] = last; break;
            case "price": so.price = last; break;
            default: so.wage = last; break;
        }
    }

    int buy(int h, int n) {
        if (!isHand(h) || n < 1 || n > 20) {
            return NONE;
        }
        So before = so.copy();
        int why = so.buy(h, n);
        return done(before, why == 0, why);
    }

    int strike(int h, boolean on) {
        if (!isHand(h)) {
            return NONE;
        }
        So before = so.copy();
        int why = so.strikes(h, on);
        return done(before, why == 0, why);
    }

    int sway(int h, int q, int w) {
        if (!isHand(h) || !isQuestion(q) || !isWay(w)) {
            return NONE;
        }
        So before = so.copy();
        int why = so.sway(h, q, w);
        return done(before, why == 0, why);
    }

    int put(int q) {
        if (!isQuestion(q)) {
            return NONE;
        }
        So before = so.copy();
        int why = so.put(q);
        return done(before, why == 0, why);
    }

    int lay(int w, int n) {
        if (!isWay(w) || n < 0 || n > 20) {
            return NONE;
        }
        So before = so.copy();
        int why = so.lay(w, n);
        return done(before, why == 0, why);
    }

    int weather(int k) {
        if (k < 0 || k > 2) {
            return NONE;
        }
        So before = so.copy();
        int why = so.turn(k);
        return done(before, why == 0, why);
    }

    int days(int n) {
        if (n < 1 || n > 60) {
            return NONE;
        }
        So before = so.copy();
        int gone = so.days(n);
        return done(before, gone > 0, gone);
    }

    int drawn(int n, int seed) {
        if (n < 1 || n > 60 || so.hands.isEmpty()) {
            return NONE;
        }
        So before = so.copy();
        int gone = so.drawn(n, seed);
        return done(before, gone > 0, gone);
    }

    int odds(int q, int n, int seed) {
        if (!isQuestion(q) || n < 1 || n > 30) {
            return NONE;
        }
        int carried = 0;
        for (int i = 0; i < n; i++) {
            So other = so.copy();
            other.drawn(20, seed + i);
            carried += other.how[q] == 1 ? 1 : 0;
        }
        return carried;
    }

    int undo() {
        if (past.isEmpty()) {
            return NONE;
        }
        so = past.remove(past.size() - 1);
        return past.size();
    }

    int win(int q) {
        if (!isQuestion(q)) {
            return NONE;
        }
        int best = NONE;
        for (int set = 0; set < 1 << so.hands.size(); set++) {
            int[] goes = so.goes(q);
            boolean fits = best == NONE || Integer.bitCount(set) < Integer.bitCount(best);
            for (int h = 0; h < so.hands.size(); h++) {
                if ((set >> h & 1) == 1) {
                    fits &= goes[h] != 0;
                    goes[h] = 0;
                }
            }
            best = fits && so.ahead(goes) > 0 ? set : best;
        }
        won = best == NONE ? won : best;
        return best == NONE ? NONE : Integer.bitCount(best);
    }

    int winStreets(int q) {
        if (!isQuestion(q)) {
            return NONE;
        }
        int best = NONE;
        for (int set = 0; set < 1 << so.streets.size(); set++) {
            int[] goes = so.goes(q);
            for (int h = 0; h < so.hands.size(); h++) {
                goes[h] = (set >> so.home[h] & 1) == 1 ? 0 : goes[h];
            }
            boolean fits = best == NONE || Integer.bitCount(set) < Integer.bitCount(best);
            best = fits && so.ahead(goes) > 0 ? set : best;
        }
        wonStreets = best == NONE ? wonStreets : best;
        return best == NONE ? NONE : Integer.bitCount(best);
    }

    int sanded(int q) {
        for (int n = 0; isQuestion(q) && n <= 20; n++) {
            So other = so.copy();
            other.sand[1] = n;
            if (other.ahead(other.goes(q)) > 0) {
                return n;
            }
        }
        return NONE;
    }

    /** Of all ways to buy: which sums of irons can be how loud, by each hand and those behind it. */
    int bought(int q) {
        if (!isQuestion(q)) {
            return NONE;
        }
        int[] goes = so.goes(q);
        int need = Math.max(1, so.noise(goes, 1) - so.echo[0] + 1);
        int hands = so.hands.size();
        boolean[][][] can = new boolean[hands + 1][20 * hands + 1][401];
        can[hands][0][0] = true;
        for (int h = hands - 1; h >= 0; h--) {
            for (int k = 0; k <= room(h, goes); k++) {
                int loud = loudWith(h, goes, k);
                for (int t = 0; t <= 20 * (hands - h - 1); t++) {
                    for (int v = 0; v + loud <= 400; v++) {
                        can[h][t + k][v + loud] |= can[h + 1][t][v];
                    }
                }
            }
        }
        int least = 0;
        while (least <= 20 * hands && !reaches(can[0][least], need)) {
            least++;
        }
        if (least > 20 * hands) {
            return NONE;
        }
        buys = new int[hands];
        int left = least;
        for (int h = 0; h < hands; h++) {
            while (!reaches(can[h + 1][left - buys[h]], need - loudWith(h, goes, buys[h]))) {
                buys[h]++;
            }
            left -= buys[h];
            need -= loudWith(h, goes, buys[h]);
        }
        return least * so.price;
    }

    private int room(int h, int[] goes) {
        return goes[h] != 0 || so.silent[h] ? 0 : Math.min(20 - so.irons[h], so.coin[h] / so.price);
    }

    private int loudWith(int h, int[] goes, int more) {
        so.irons[h] += more;
        int loud = goes[h] == 0 ? so.loud(h, 0) : 0;
        so.irons[h] -= more;
        return loud;
    }

    private static boolean reaches(boolean[] can, int need) {
        for (int v = Math.max(0, need); v < can.length; v++) {
            if (can[v]) {
                return true;
            }
        }
        return false;
    }

    int agenda() {
        List<Integer> open = new ArrayList<>();
        for (int q = 0; q < so.questions.size(); q++) {
            if (so.how[q] == 0) {
                open.add(q);
            }
        }
        So dry = so.copy();
        dry.weather = 0;
        int[] best = {NONE};
        tryOrders(dry, open, new ArrayList<>(), 0, best);
        return best[0];
    }

    private void tryOrders(So now, List<Integer> open, List<Integer> order, int carried, int[] best) {
        if (open.isEmpty() && carried > best[0]) {
            best[0] = carried;
            agenda = new ArrayList<>(order);
        }
        for (int i = 0; i < open.size(); i++) {
            int q = open.get(i);
            So next = now.copy();
            boolean wins = next.ahead(next.goes(q)) > 0;
            if (wins) {
                next.grant(q);
            }
            List<Integer> others = new ArrayList<>(open);
            others.remove(i);
            order.add(q);
            tryOrders(next, others, order, carried + (wins ? 1 : 0), best);
            order.remove(order.size() - 1);
        }
    }

    int power(int h) {
        if (!isHand(h)) {
            return NONE;
        }
        int swung = 0;
        for (int set = 0; set < 1 << so.hands.size(); set++) {
            int[] goes = new int[10];
            for (int i = 0; i < 10; i++) {
                goes[i] = set >> i & 1;
            }
            if (goes[h] == 0 && so.ahead(goes) > 0) {
                goes[h] = 1;
                swung += so.ahead(goes) > 0 ? 0 : 1;
            }
        }
        return swung;
    }

    int heard() {
        String two = read();
        if (two.length() != 2) {
            return NONE;
        }
        int sets = 0;
        int sure = (1 << so.hands.size()) - 1;
        int[] in = new int[10];
        for (int set = 0; set < 1 << so.hands.size(); set++) {
            int[] goes = new int[10];
            for (int h = 0; h < 10; h++) {
                goes[h] = (set >> h & 1) == 1 ? 0 : NONE;
            }
            if (Math.abs(so.noise(goes, 0) - two.charAt(0)) <= two.charAt(1)) {
                sets++;
                sure &= set;
                for (int h = 0; h < 10; h++) {
                    in[h] += set >> h & 1;
                }
            }
        }
        if (sets > 0) {
            surely = sure;
            ask = NONE;
            for (int h = so.hands.size() - 1; h >= 0; h--) {
                boolean asEven = ask == NONE || Math.abs(in[h] - (sets - in[h])) <= Math.abs(in[ask] - (sets - in[ask]));
                ask = asEven ? h : ask;
            }
        }
        return sets;
    }

    int crier(int q) {
        if (!isQuestion(q)) {
            return NONE;
        }
        String how = so.how[q] == 1 ? " carried by " : " lost by ";
        cry = so.questions.get(q) + (so.how[q] == 0 ? " is open" : how + so.louder[q]);
        return cry.length();
    }

    int book(int lives) {
        if (lives < 0 || lives > 1) {
            return -1000;
        }
        String text = read();
        TextReader reader = TextReader.ofBook(text, names());
        fault = reader.kind;
        if (reader.kind != 0) {
            return -2 - reader.place;
        }
        So before = so;
        so = so.copy();
        int line = 0;
        int why = 0;
        List<String[]> lines = lines(text);
        while (line < lines.size() && why == 0) {
            why = live(lines.get(line));
            line += why == 0 ? 1 : 0;
        }
        told = new int[] {why, line, so.day, so.bits(1)};
        if (lives == 0) {
            so = before;
        }
        done(before, lives == 1 && line > 0, 0);
        return why == 0 ? NONE : line;
    }

    private static int more(int why, int more) {
        return why == 0 ? 0 : why + more;
    }

    private int live(String[] line) {
        int last = line[line.length - 1].matches("[0-9]+") ? Integer.parseInt(line[line.length - 1]) : 0;
        switch (line[0]) {
            case "put": return more(so.put(so.questions.indexOf(line[1])), 40);
            case "lay": return more(so.lay(line[1].equals("left") ? 0 : 1, last), 50);
            case "dry": return more(so.turn(0), 60);
            case "wet": return more(so.turn(1), 60);
            case "snow": return more(so.turn(2), 60);
            case "day":
                if (so.day + last > 400) {
                    return 71;
                }
                so.days(last);
                return 0;
            default:
                break;
        }
        int h = so.hands.indexOf(line[0]);
        switch (line[1]) {
            case "buys": return so.buy(h, last);
            case "strikes": return more(so.strikes(h, true), 10);
            case "works": return more(so.strikes(h, false), 20);
            default: return more(so.sway(h, so.questions.indexOf(line[2]), line[3].equals("left") ? 0 : 1), 30);
        }
    }

    int sentence() {
        String text = read();
        TextReader reader = TextReader.ofSentence(text, names());
        fault = reader.kind;
        if (reader.kind != 0) {
            return -1 - reader.place;
        }
        saying = text.replace('\n', ' ').replaceAll("([<=>()])", " $1 ").trim();
        return reader.found;
    }

    int said(int k) {
        if (saying == null || k < NONE) {
            return NONE;
        }
        List<Integer> found = new ArrayList<>();
        for (int h = 0; h < so.hands.size(); h++) {
            if (holds(h)) {
                found.add(h);
            }
        }
        return k == NONE ? found.size() : k < found.size() ? found.get(k) : NONE;
    }

    /** Puts what holds of a hand in place of each plain one, then takes nots, brackets, ands and ors away. */
    private boolean holds(int h) {
        String text = " " + String.join(" ", saying.split(" +")) + " ";
        text = text.replace(" silent ", truth(so.silent[h])).replace(" child ", truth(so.child[h]));
        String[] tokens = text.trim().split(" +");
        StringBuilder left = new StringBuilder();
        for (int i = 0; i < tokens.length; i++) {
            switch (tokens[i]) {
                case "of": left.append(truth(so.home[h] == so.streets.indexOf(tokens[++i]))); break;
                case "for": left.append(truth(so.wants[h][so.questions.indexOf(tokens[++i])] == 0)); break;
                case "against": left.append(truth(so.wants[h][so.questions.indexOf(tokens[++i])] == 1)); break;
                case "irons": case "coin": case "number":
                    int has = tokens[i].equals("irons") ? so.irons[h] : tokens[i].equals("coin") ? so.coin[h] : h;
                    int than = Integer.parseInt(tokens[i + 2]);
                    left.append(truth(tokens[i + 1].equals("<") ? has < than : tokens[i + 1].equals("=") ? has == than : has > than));
                    i += 2;
                    break;
                default: left.append(tokens[i].replace("not", "!").replace("and", "&").replace("or", "|"));
            }
        }
        return reduced(left.toString().replace(" ", "")).equals("1");
    }

    private static String truth(boolean holds) {
        return holds ? " 1 " : " 0 ";
    }

    private static String reduced(String formula) {
        String now = formula;
        String then = "";
        while (!now.equals(then)) {
            then = now;
            now = now.replace("!1", "0").replace("!0", "1").replace("(1)", "1").replace("(0)", "0");
            if (now.equals(then)) {
                now = now.replaceFirst("(?<![!])([01])&([01])(?!\\d)", "A$1$2").replace("A11", "1").replaceAll("A[01][01]", "0");
            }
            if (now.equals(then)) {
                now = now.replaceFirst("(?<![!&])([01])\\|([01])(?!&)", "O$1$2").replace("O00", "0").replaceAll("O[01][01]", "1");
            }
        }
        return now;
    }

    boolean image(int k) {
        if (k < 0 || k > 1) {
            return false;
        }
        kept[k] = so.copy();
        keptSaying[k] = saying;
        return true;
    }

    boolean restore(int k) {
        if (k < 0 || k > 1 || kept[k] == null) {
            return false;
        }
        so = kept[k].copy();
        saying = keptSaying[k];
        past.clear();
        return true;
    }
}
