/**
 * Promises 6 and 21 to 35 once more: on valleys by chance, against a plain count of all ways, made of nothing
 * but what the calls hand(), wants(), grants(), way(), now() tell.
 */
public final class OracleTest {
    private static int[] irons;
    private static int[] coin;
    private static boolean[] child;
    private static boolean[] silent;
    private static int[] home;
    private static int[][] wanted;
    private static int[][] granted;
    private static boolean[] isOpen;
    private static int price;
    private static int hands;
    private static int streets;
    private static int questions;
    private static int[] sand = new int[2];
    private static int[] echo = new int[2];
    private static boolean wet;

    public static void main(String[] args) {
        for (int run = 0; run < 360; run++) {
            Dice dice = new Dice(run);
            ClogVotes x = Check.valley(dice.valley(1 + dice.below(5), dice.below(7), dice.below(6)));
            act(x, dice);
            look(x);
            compareHands(x);
            for (int q = 0; q < questions; q++) {
                compareNoise(x, q);
                compareWon(x, q);
                compareStreets(x, q);
                compareSanded(x, q);
                compareBought(x, q);
            }
            compareAgenda(x);
            comparePower(x);
            compareHeard(x, dice);
        }
        Check.finish("OracleTest");
    }

    private static void act(ClogVotes x, Dice dice) {
        for (int i = 0; i < 6; i++) {
            x.strike(dice.below(40));
            x.buy(dice.below(10), 1 + dice.below(3));
            x.lay(dice.below(8), dice.below(4));
            x.sway(dice.below(10), dice.below(5), dice.below(2));
        }
        x.weather(dice.below(3));
        if (dice.once(3)) {
            x.put(dice.below(5));
        }
    }

    private static void look(ClogVotes x) {
        streets = x.count(0);
        hands = x.count(1);
        questions = x.count(2);
        irons = new int[hands];
        coin = new int[hands];
        home = new int[hands];
        child = new boolean[hands];
        silent = new boolean[hands];
        for (int h = 0; h < hands; h++) {
            home[h] = x.hand(h, 0);
            irons[h] = x.hand(h, 1);
            coin[h] = x.hand(h, 2);
            child[h] = x.hand(h, 3) == 1;
            silent[h] = x.hand(h, 4) == 1;
        }
        lookAtQuestions(x);
        for (int w = 0; w < 2; w++) {
            sand[w] = x.way(w, 0);
            echo[w] = x.way(w, 1);
        }
        wet = x.now(1) == 1;
        price = x.count(3);
    }

    private static void lookAtQuestions(ClogVotes x) {
        wanted = new int[questions][hands];
        granted = new int[questions][streets];
        isOpen = new boolean[questions];
        for (int q = 0; q < questions; q++) {
            isOpen[q] = x.question(q, 0) == 0;
            for (int s = 0; s < streets; s++) {
                granted[q][s] = x.grants(q, s);
            }
            for (int h = 0; h < hands; h++) {
                wanted[q][h] = x.wants(h, q);
            }
        }
    }

    private static int loud(int h, int has, int w, int lies) {
        if (silent[h]) {
            return 0;
        }
        int loud = child[h] ? has + has : has;
        loud = wet ? (loud - loud % 2) / 2 : loud;
        return loud > lies ? loud - lies : 0;
    }

    /** goes[h]: 0, 1 or another number for nobody's way. */
    private static int noise(int[] goes, int[] has, int w, int lies) {
        int sum = 0;
        for (int h = 0; h < hands; h++) {
            if (goes[h] == w) {
                sum += loud(h, has[h], w, lies);
            }
        }
        return sum == 0 ? 0 : sum + echo[w];
    }

    private static boolean carried(int[] goes) {
        return noise(goes, irons, 0, sand[0]) > noise(goes, irons, 1, sand[1]);
    }

    private static int[] goes(int q) {
        return wanted[q].clone();
    }

    private static void compareHands(ClogVotes x) {
        for (int h = 0; h < hands; h++) {
            Check.same("hand(h, 5)", x.hand(h, 5), loud(h, irons[h], 0, sand[0]));
            Check.same("hand(h, 6)", x.hand(h, 6), loud(h, irons[h], 1, sand[1]));
        }
    }

    private static void compareNoise(ClogVotes x, int q) {
        int[] goes = goes(q);
        Check.same("noise(q, 0)", x.noise(q, 0), noise(goes, irons, 0, sand[0]));
        Check.same("noise(q, 1)", x.noise(q, 1), noise(goes, irons, 1, sand[1]));
        Check.same("would(q)", x.would(q), carried(goes) ? 1 : 0);
    }

    private static void compareWon(ClogVotes x, int q) {
        int most = 99;
        int which = 0;
        for (int set = 0; set < 1 << hands; set++) {
            int[] goes = goes(q);
            boolean fits = true;
            for (int h = 0; h < hands; h++) {
                if ((set >> h) % 2 == 1) {
                    fits &= goes[h] != 0;
                    goes[h] = 0;
                }
            }
            if (fits && carried(goes) && Integer.bitCount(set) < most) {
                most = Integer.bitCount(set);
                which = set;
            }
        }
        int before = x.won();
        Check.same("win(q)", x.win(q), most == 99 ? Check.NONE : most);
        Check.same("won()", x.won(), most == 99 ? before : which);
    }

    private static void compareStreets(ClogVotes x, int q) {
        int most = 99;
        int which = 0;
        for (int set = 0; set < 1 << streets; set++) {
            int[] goes = goes(q);
            for (int h = 0; h < hands; h++) {
                if ((set >> home[h]) % 2 == 1) {
                    goes[h] = 0;
                }
            }
            if (carried(goes) && Integer.bitCount(set) < most) {
                most = Integer.bitCount(set);
                which = set;
            }
        }
        int before = x.wonStreets();
        Check.same("winStreets(q)", x.winStreets(q), most == 99 ? Check.NONE : most);
        Check.same("wonStreets()", x.wonStreets(), most == 99 ? before : which);
    }

    private static void compareSanded(ClogVotes x, int q) {
        int[] goes = goes(q);
        int least = Check.NONE;
        for (int lies = 20; lies >= 0; lies--) {
            if (noise(goes, irons, 0, sand[0]) > noise(goes, irons, 1, lies)) {
                least = lies;
            }
        }
        Check.same("sanded(q)", x.sanded(q), least);
    }

    private static int[] bestBuys;
    private static int bestSum;

    private static void compareBought(ClogVotes x, int q) {
        int[] goes = goes(q);
        long ways = 1;
        for (int h = 0; h < hands; h++) {
            ways *= mostBuys(goes, h) + 1;
        }
        if (ways > 60_000) {
            return;
        }
        bestBuys = null;
        bestSum = 0;
        tryBuys(goes, new int[hands], 0, 0);
        if (bestBuys == null) {
            Check.same("bought(q)", x.bought(q), Check.NONE);
            return;
        }
        Check.same("bought(q)", x.bought(q), bestSum * price);
        for (int h = 0; h < hands; h++) {
            Check.same("buys(h)", x.buys(h), bestBuys[h]);
        }
        Check.same("buys() of nobody", x.buys(hands), Check.NONE);
    }

    private static int mostBuys(int[] goes, int h) {
        if (goes[h] != 0 || silent[h]) {
            return 0;
        }
        int most = 0;
        while ((most + 1) * price <= coin[h] && irons[h] + most + 1 <= 20) {
            most++;
        }
        return most;
    }

    /** Goes through all ways to buy in their order; the first of the least sum stays. */
    private static void tryBuys(int[] goes, int[] buys, int h, int sum) {
        if (h == hands) {
            int[] has = irons.clone();
            for (int i = 0; i < hands; i++) {
                has[i] += buys[i];
            }
            if (noise(goes, has, 0, sand[0]) > noise(goes, irons, 1, sand[1]) && (bestBuys == null || sum < bestSum)) {
                bestBuys = buys.clone();
                bestSum = sum;
            }
            return;
        }
        int most = mostBuys(goes, h);
        for (int n = 0; n <= most; n++) {
            buys[h] = n;
            tryBuys(goes, buys, h + 1, sum + n);
        }
        buys[h] = 0;
    }

    private static int[] bestOrder;
    private static int bestCarried;

    private static void compareAgenda(ClogVotes x) {
        boolean was = wet;
        wet = false;
        bestCarried = -1;
        tryOrders(new int[0], irons.clone(), 0);
        wet = was;
        Check.same("agenda()", x.agenda(), bestCarried);
        for (int k = 0; k < bestOrder.length; k++) {
            Check.same("agendaAt(k)", x.agendaAt(k), bestOrder[k]);
        }
        Check.same("agendaAt() behind the last", x.agendaAt(bestOrder.length), Check.NONE);
    }

    private static void tryOrders(int[] order, int[] has, int carried) {
        boolean last = true;
        for (int q = 0; q < questions; q++) {
            boolean open = isOpen[q];
            for (int done : order) {
                open &= done != q;
            }
            if (open) {
                last = false;
                int[] longer = java.util.Arrays.copyOf(order, order.length + 1);
                longer[order.length] = q;
                int[] goes = goes(q);
                boolean left = noise(goes, has, 0, sand[0]) > noise(goes, has, 1, sand[1]);
                int[] then = has.clone();
                for (int h = 0; left && h < hands; h++) {
                    then[h] = Math.min(20, then[h] + granted[q][home[h]]);
                }
                tryOrders(longer, then, carried + (left ? 1 : 0));
            }
        }
        if (last && carried > bestCarried) {
            bestCarried = carried;
            bestOrder = order;
        }
    }

    private static void comparePower(ClogVotes x) {
        for (int h = 0; h < hands; h++) {
            int due = 0;
            for (int set = 0; set < 1 << hands; set++) {
                int[] goes = new int[hands];
                for (int i = 0; i < hands; i++) {
                    goes[i] = (set >> i) % 2;
                }
                if (goes[h] == 0 && carried(goes)) {
                    goes[h] = 1;
                    due += carried(goes) ? 0 : 1;
                }
            }
            Check.same("power(h)", x.power(h), due);
        }
    }

    private static void compareHeard(ClogVotes x, Dice dice) {
        int loud = dice.below(60);
        int off = dice.below(6);
        int sets = 0;
        int[] in = new int[hands];
        for (int set = 0; set < 1 << hands; set++) {
            int[] goes = new int[hands];
            for (int i = 0; i < hands; i++) {
                goes[i] = (set >> i) % 2 == 1 ? 0 : 5;
            }
            int noise = noise(goes, irons, 0, sand[0]);
            if (noise >= loud - off && noise <= loud + off) {
                sets++;
                for (int i = 0; i < hands; i++) {
                    in[i] += (set >> i) % 2;
                }
            }
        }
        int sureBefore = x.surely();
        int askBefore = x.ask();
        Check.same("heard()", Check.heard(x, loud, off), sets);
        int sure = 0;
        int ask = Check.NONE;
        int even = 9999;
        for (int h = 0; h < hands; h++) {
            sure += in[h] == sets ? 1 << h : 0;
            int gap = Math.abs(in[h] - (sets - in[h]));
            if (gap < even) {
                even = gap;
                ask = h;
            }
        }
        Check.same("surely()", x.surely(), sets == 0 ? sureBefore : sure);
        Check.same("ask()", x.ask(), sets == 0 ? askBefore : ask);
    }
}
