/** Promises 33 to 35: who went left by what was heard, and whom to ask. */
public final class HeardTest {
    public static void main(String[] args) {
        sets();
        notAsTold();
        asking();
        nobody();
        byWhatIsSo();
        Check.finish("HeardTest");
    }

    private static void sets() {
        ClogVotes x = Check.valley("street s;hand a s 3 0;hand b s 4 0;hand c s 7 0;echo left 10;echo right 50;sand right 9;");
        Check.same("surely() ahead of any", x.surely(), Check.NONE);
        Check.same("ask() ahead of any", x.ask(), Check.NONE);
        Check.same("heard 17", Check.heard(x, 17, 0), 2);
        Check.same("surely() of ab and c", x.surely(), 0);
        Check.same("ask(): each in one of two", x.ask(), 0);
        Check.same("heard 5", Check.heard(x, 5, 0), 0);
        Check.same("surely() stays", x.surely(), 0);
        Check.same("heard 20", Check.heard(x, 20, 0), 1);
        Check.same("surely() of ac", x.surely(), 5);
        Check.same("ask(), all as uneven", x.ask(), 0);
        Check.same("heard 20 or so", Check.heard(x, 20, 1), 2);
        Check.same("surely() of ac and bc", x.surely(), 4);
        Check.same("ask()", x.ask(), 0);
        Check.same("heard 4, a bit off", Check.heard(x, 4, 3), 0);
        Check.same("surely() stays", x.surely(), 4);
        Check.same("heard 4, the empty set", Check.heard(x, 4, 4), 1);
        Check.same("surely() of nobody", x.surely(), 0);
        Check.same("heard 255 off", Check.heard(x, 0, 255), 8);
        Check.same("heard 255", Check.heard(x, 255, 254), 7);
        Check.same("the right stays as it is", x.way(1, 0), 9);
    }

    private static void notAsTold() {
        ClogVotes x = Check.valley("street s;hand a s 3 0;");
        Check.same("heard() of nothing", x.heard(), Check.NONE);
        Check.tell(x, "a");
        Check.same("heard() of one byte", x.heard(), Check.NONE);
        Check.same("the tape is empty", x.count(5), 0);
        Check.tell(x, "abc");
        Check.same("heard() of three bytes", x.heard(), Check.NONE);
        Check.same("the tape is empty", x.count(5), 0);
        Check.same("surely() ahead of any", x.surely(), Check.NONE);
        Check.same("heard 3", Check.heard(x, 3, 0), 1);
        Check.same("the tape is empty", x.count(5), 0);
        Check.same("surely()", x.surely(), 1);
        x.heard();
        Check.same("surely() stays", x.surely(), 1);
        Check.same("ask() stays", x.ask(), 0);
    }

    private static void asking() {
        ClogVotes x = Check.valley("street s;hand a s 1 0;hand b s 6 0;hand c s 2 0;hand d s 3 0;");
        // 6: b, acd, 7: ab, 8: bc: of four b is in three, a in two
        Check.same("heard 7, one off", Check.heard(x, 7, 1), 4);
        Check.same("surely()", x.surely(), 0);
        Check.same("ask(): a", x.ask(), 0);
        // 9: abc, bd, 10: abd: a in two of three, b in three, c in one
        Check.same("heard 10, one off", Check.heard(x, 10, 1), 4);
        Check.same("surely(): b", x.surely(), 2);
        Check.same("ask(): a", x.ask(), 0);
        x.strike(0);
        // 11: bcd, with a or without: only a is in as many as not
        Check.same("heard 11", Check.heard(x, 11, 0), 2);
        Check.same("surely(): b, c, d", x.surely(), 14);
        Check.same("ask(): a", x.ask(), 0);
        x.work(0);
        x.strike(2);
        Check.same("heard 10", Check.heard(x, 10, 0), 2);
        Check.same("surely(): a, b, d", x.surely(), 11);
        Check.same("ask(): c", x.ask(), 2);
        x.work(2);
        Check.same("ask() as it was then", x.ask(), 2);
    }

    private static void nobody() {
        ClogVotes x = new ClogVotes();
        Check.same("heard 0 of nobody", Check.heard(x, 0, 0), 1);
        Check.same("surely()", x.surely(), 0);
        Check.same("ask() of nobody", x.ask(), Check.NONE);
        Check.same("heard 1 of nobody", Check.heard(x, 1, 0), 0);
        Check.same("heard 1 of nobody, 1 off", Check.heard(x, 1, 1), 1);
    }

    private static void byWhatIsSo() {
        ClogVotes x = Check.valley("street s;hand a s 9 0 child;hand b s 9 0;sand left 1;");
        Check.same("heard 25", Check.heard(x, 25, 0), 1);
        x.weather(1);
        Check.same("heard 25 wet", Check.heard(x, 25, 0), 0);
        Check.same("heard 11 wet", Check.heard(x, 11, 0), 1);
        Check.same("surely()", x.surely(), 3);
        x.weather(2);
        Check.same("heard 17 in snow", Check.heard(x, 17, 0), 1);
        Check.same("surely()", x.surely(), 1);
        Check.tell(x, "street s;");
        x.valley();
        Check.same("surely() stays", x.surely(), 1);
        Check.same("ask() stays", x.ask(), 0);
    }
}
