/** Numbers and valleys by chance, the same ones in each run. */
final class Dice {
    private long x;

    Dice(long seed) {
        x = seed;
    }

    int below(int n) {
        x = x * 6364136223846793005L + 1442695040888963407L;
        return (int) ((x >>> 33) % n);
    }

    boolean once(int in) {
        return below(in) == 0;
    }

    /** A valley without a fault: so many hands, streets sa.., hands ha.., questions qa... */
    String valley(int streets, int hands, int questions) {
        StringBuilder text = new StringBuilder();
        for (int s = 0; s < streets; s++) {
            text.append("street ").append(name('s', s)).append(';');
        }
        for (int h = 0; h < hands; h++) {
            text.append("hand ").append(name('h', h)).append(' ').append(name('s', below(streets))).append(' ')
                    .append(once(4) ? 20 - below(4) : below(12)).append(' ').append(once(3) ? below(100) : below(20))
                    .append(once(3) ? " child;" : ";");
        }
        for (int q = 0; q < questions; q++) {
            text.append("question ").append(name('q', q)).append(';');
        }
        for (int h = 0; h < hands; h++) {
            for (int q = 0; q < questions; q++) {
                if (!once(3) && text.length() < 800) {
                    text.append("wants ").append(name('h', h)).append(' ').append(name('q', q))
                            .append(once(2) ? " left;" : " right;");
                }
            }
        }
        for (int q = 0; q < questions; q++) {
            for (int s = 0; s < streets; s++) {
                if (once(2) && text.length() < 800) {
                    text.append("grants ").append(name('q', q)).append(' ').append(name('s', s)).append(' ')
                            .append(1 + below(9)).append(';');
                }
            }
        }
        return text + some("sand left ", 5) + some("sand right ", 5) + some("echo left ", 9) + some("echo right ", 9)
                + some("price ", 3).replace("price 0", "price 9");
    }

    private String some(String line, int most) {
        return once(2) ? line + below(most + 1) + ";" : "";
    }

    private static String name(char sort, int i) {
        return "" + sort + (char) ('a' + i);
    }
}
