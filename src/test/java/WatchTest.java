/** Promises 39 to 46: seasons, watches, the text of the rule, and counts. */
public final class WatchTest {
    private static final Check check = new Check();

    public static void main(String[] args) {
        seasons();
        watches();
        watchesOfSeasons();
        feeds();
        feedsFull();
        reads();
        readsAnew();
        blanks();
        faultsOfPlace();
        faultsOfNumbers();
        faultsOfWords();
        faultsAtTheEnd();
        firstFault();
        faults();
        wordsOf();
        dues();
        counts();
        check.end();
    }

    private static void seasons() {
        SmellHours x = new SmellHours();
        check.due("season 29", x.season(29), Check.OUTSIDE);
        check.due("season 91", x.season(91), Check.OUTSIDE);
        check.due("season 30", x.season(30), 60);
        check.due("season 90", x.season(90), 30);
        for (int wild : Check.WILD) {
            check.due("season wild", x.season(wild), Check.OUTSIDE);
        }
        check.due("refused, it stays", x.count(7), 90);
    }

    private static void watches() {
        SmellHours x = new SmellHours();
        check.due("tick 0", x.watch(0, 0), 0);
        check.due("tick 59", x.watch(59, 0), 0);
        check.due("tick 60", x.watch(60, 0), 1);
        check.due("tick 719", x.watch(719, 0), 11);
        check.due("tick 719 begins", x.watch(719, 1), 660);
        check.due("tick 719 has left", x.watch(719, 2), 1);
        check.due("tick 720", x.watch(720, 0), 0);
        check.due("tick 720 begins", x.watch(720, 1), 720);
        check.due("tick 720 has left", x.watch(720, 2), 60);
        check.due("tick 20000", x.watch(20000, 0), 9);
        check.due("tick 20000 begins", x.watch(20000, 1), 19980);
        check.due("tick 20000 has left", x.watch(20000, 2), 40);
        check.due("tick 20001", x.watch(20001, 0), Check.OUTSIDE);
        check.due("tick -1", x.watch(-1, 0), Check.OUTSIDE);
        check.due("what 3", x.watch(0, 3), Check.OUTSIDE);
        check.due("what -1", x.watch(0, -1), Check.OUTSIDE);
        for (int wild : Check.WILD) {
            check.due("watch wild tick", x.watch(wild, 0), Check.OUTSIDE);
            check.due("watch wild what", x.watch(0, wild), Check.OUTSIDE);
        }
    }

    private static void watchesOfSeasons() {
        SmellHours x = new SmellHours();
        for (int n = 30; n <= 90; n += 12) {
            x.season(n);
            int begin = 720;
            for (int k = 0; k < 12; k++) {
                int ticks = k < 6 ? n : 120 - n;
                String what = "watch " + k + " of season " + n;
                check.due(what + " first", x.watch(begin, 0), k);
                check.due(what + " last", x.watch(begin + ticks - 1, 0), k);
                check.due(what + " begins", x.watch(begin + ticks - 1, 1), begin);
                check.due(what + " has left", x.watch(begin + 1, 2), ticks - 1);
                begin += ticks;
            }
        }
    }

    private static void feeds() {
        SmellHours x = new SmellHours();
        check.due("feed 0", x.feed(0, 0), Check.OUTSIDE);
        check.due("feed 9", x.feed(9, 0), Check.OUTSIDE);
        for (int wild : Check.WILD) {
            check.due("feed wild", x.feed(wild, 0), Check.OUTSIDE);
        }
        check.due("nothing fed", x.count(6), 0);
        check.due("feed watch 3", x.feed(7, 0x7777617463682033L), 7);
        check.due("feed bell;", x.feed(5, 0xffffff62656c6c3bL), 12);
        check.due("read", x.read(), 1);
        check.due("its words", x.words(3), 1);
        check.due("feed eight", x.feed(8, 0x7761746368343220L), 8);
        check.due("read 42", x.read(), -12);
        check.due("a byte above 127", x.feed(1, -1), 1);
        check.due("cannot stand", x.read(), -11);
        check.due("feed eight bytes of 255", x.feed(8, -1L), 8);
        check.due("cannot stand either", x.read(), -11);
        check.due("at the first one", x.fault(), 0);
    }

    private static void feedsFull() {
        SmellHours x = new SmellHours();
        for (int k = 1; k < 20; k++) {
            check.due("feed " + k, x.feed(8, 0x2020202020202020L), 8 * k);
        }
        check.due("feed 7", x.feed(7, 0x2020202020202020L), 159);
        check.due("feed 2 more", x.feed(2, 0x2020), Check.FULL);
        check.due("feed 9 more", x.feed(9, 0), Check.OUTSIDE);
        check.due("159 still", x.count(6), 159);
        check.due("feed 1 more", x.feed(1, 'w'), 160);
        check.due("and 1 more", x.feed(1, 32), Check.FULL);
        check.due("read it", x.read(), -11);
        check.due("at the last byte", x.fault(), 159);
        check.due("empty then", x.count(6), 0);
        check.due("feed again", x.feed(8, 0), 8);
    }

    private static void reads() {
        SmellHours x = new SmellHours();
        check.due("read nothing", x.read(), 0);
        check.due("no fault", x.fault(), Check.NONE);
        reading(x, "watch 0 bell;", 1, Check.NONE);
        reading(x, "watch 11 bell,light,sweep,sleep,drum;watch 2 drum;", 2, Check.NONE);
        check.due("all words", x.words(11), 31);
        check.due("drum", x.words(2), 16);
        check.due("watch 0 is not told", x.words(0), 0);
        reading(x, "watch 00 sleep; watch 07 light; watch 1 sweep;", 3, Check.NONE);
        check.due("sleep", x.words(0), 8);
        check.due("light", x.words(7), 2);
        check.due("sweep", x.words(1), 4);
        StringBuilder all = new StringBuilder();
        for (int k = 0; k < 12; k++) {
            all.append("watch").append(k).append("drum;");
        }
        reading(x, all.toString(), 12, Check.NONE);
        check.due("watch 10", x.words(10), 16);
    }

    /** Reads a text, and what is due: clauses, or -10 less the fault's number; and its byte. */
    private static void reading(SmellHours x, String text, int due, int spot) {
        Check.feed(x, text);
        check.due("fed " + text, x.count(6), text.length());
        check.due("read " + text, x.read(), due);
        check.due("fault of " + text, x.fault(), spot);
        check.due("empty behind " + text, x.count(6), 0);
    }

    private static void readsAnew() {
        SmellHours x = new SmellHours();
        reading(x, "watch 1 bell; watch 2 drum;", 2, Check.NONE);
        reading(x, "watch 1 sweep; watch 2 dru;", -11, 23);
        check.due("with a fault the rule is as it was", x.words(1), 1);
        check.due("all of it", x.words(2), 16);
        reading(x, "watch 2 sweep;", 1, Check.NONE);
        check.due("not told, no words", x.words(1), 0);
        check.due("told anew", x.words(2), 4);
        reading(x, "   ", 0, Check.NONE);
        check.due("blanks have no words", x.words(2), 0);
    }

    private static void blanks() {
        SmellHours x = new SmellHours();
        reading(x, "watch3bell;", 1, Check.NONE);
        check.due("without blanks", x.words(3), 1);
        reading(x, "  watch   4   bell ,  drum  ;  ", 1, Check.NONE);
        check.due("with many", x.words(4), 17);
        reading(x, "wat ch 4 bell;", -11, 0);
        reading(x, "watch 1 1 bell;", -11, 8);
        reading(x, "watch 1 be ll;", -11, 8);
        reading(x, "watch\t1 bell;", -11, 5);
        reading(x, "watch 1\nbell;", -11, 7);
    }

    private static void faultsOfPlace() {
        SmellHours x = new SmellHours();
        reading(x, "bell;", -11, 0);
        reading(x, ";", -11, 0);
        reading(x, "1", -11, 0);
        reading(x, " 999", -11, 1);
        reading(x, "watch bell;", -11, 6);
        reading(x, "watch watch 1 bell;", -11, 6);
        reading(x, "watch ; 1 bell;", -11, 6);
        reading(x, "watch 1 ;", -11, 8);
        reading(x, "watch 1 , bell;", -11, 8);
        reading(x, "watch 1 watch;", -11, 8);
        reading(x, "watch 1 2;", -11, 8);
        reading(x, "watch 1 bell drum;", -11, 13);
        reading(x, "watch 1 bell 7;", -11, 13);
        reading(x, "watch 1 bell,;", -11, 13);
        reading(x, "watch 1 bell,,drum;", -11, 13);
        reading(x, "watch 1 bell;;", -11, 13);
        reading(x, "watch 1 bell; bell", -11, 14);
        reading(x, "watch 1 bells;", -11, 8);
        reading(x, "watch 1 bel;", -11, 8);
        reading(x, "watch 1 xxxxbell;", -11, 8);
        reading(x, "watch 1 aaaaaaaaaaaaaaaaaabell;", -11, 8);
        reading(x, "watches 1 bell;", -11, 0);
        reading(x, "watch 1 bellz;", -11, 8);
        reading(x, "watch 1 bella;", -11, 8);
        reading(x, "watch 1 Bell;", -11, 8);
        reading(x, "watch 1 bellX;", -11, 12);
        reading(x, "watch 1 bell{", -11, 12);
        reading(x, "watch 1 bell`", -11, 12);
        reading(x, "watch /1 bell;", -11, 6);
        reading(x, "watch :1 bell;", -11, 6);
        reading(x, "watch -1 bell;", -11, 6);
        reading(x, "watch 1 bell;" + (char) 0, -11, 13);
        reading(x, "watch 1 bell" + (char) 233, -11, 12);
    }

    private static void faultsOfNumbers() {
        SmellHours x = new SmellHours();
        reading(x, "watch 12 bell;", -12, 6);
        reading(x, "watch 99 bell;", -12, 6);
        reading(x, "watch 001 bell;", -12, 6);
        reading(x, "watch 000 bell;", -12, 6);
        reading(x, "watch  123456789012345 bell;", -12, 7);
        reading(x, "watch 4294967297", -12, 6);
        reading(x, "watch 1 bell; watch 12", -12, 20);
        reading(x, "watch 1 bell; watch 1", -13, 20);
        reading(x, "watch 1 bell; watch 01 drum;", -13, 20);
        reading(x, "watch 1 bell; watch 2 bell; watch   1 light;", -13, 36);
        reading(x, "watch 1 bell; watch 001", -12, 20);
        reading(x, "watch 1 bell; watch 11 bell;", 2, Check.NONE);
    }

    private static void faultsOfWords() {
        SmellHours x = new SmellHours();
        reading(x, "watch 1 bell,bell;", -14, 13);
        reading(x, "watch 1 drum,bell, light , drum", -14, 27);
        reading(x, "watch 1 bell; watch 2 bell;", 2, Check.NONE);
        reading(x, "watch 1 bell,watch;", -11, 13);
    }

    private static void faultsAtTheEnd() {
        SmellHours x = new SmellHours();
        reading(x, "watch", -11, 5);
        reading(x, "watch 1", -11, 7);
        reading(x, "watch 1   ", -11, 10);
        reading(x, "watch 1 bell", -11, 12);
        reading(x, "watch 1 bell,", -11, 13);
        reading(x, "watch 1 bell; watch", -11, 19);
        reading(x, "watch 1 bel", -11, 8);
        reading(x, "wat", -11, 0);
    }

    private static void firstFault() {
        SmellHours x = new SmellHours();
        reading(x, "watch 12 bell,bell", -12, 6);
        reading(x, "watch 1 bell,bell; watch 1 x", -14, 13);
        reading(x, "watch 1 bell; watch 1 x", -13, 20);
        reading(x, "watch 1 x; watch 1", -11, 8);
        reading(x, "watch 1 bell; watch 13 x", -12, 20);
    }

    private static void faults() {
        SmellHours x = new SmellHours();
        check.due("no read yet", x.fault(), Check.NONE);
        reading(x, "  x", -11, 2);
        check.due("it stays", x.fault(), 2);
        x.feed(1, 32);
        check.due("till the next read", x.fault(), 2);
        check.due("read a blank", x.read(), 0);
        check.due("none of the latest", x.fault(), Check.NONE);
    }

    private static void wordsOf() {
        SmellHours x = new SmellHours();
        reading(x, "watch 11 drum; watch 0 light;", 2, Check.NONE);
        check.due("words 11", x.words(11), 16);
        check.due("words 0", x.words(0), 2);
        check.due("words 12", x.words(12), Check.OUTSIDE);
        check.due("words -1", x.words(-1), Check.OUTSIDE);
        for (int wild : Check.WILD) {
            check.due("words wild", x.words(wild), Check.OUTSIDE);
        }
    }

    private static void dues() {
        SmellHours x = new SmellHours();
        reading(x, "watch 0 bell; watch 5 light,drum; watch 6 sweep; watch 11 sleep;", 4, Check.NONE);
        check.due("tick 0", x.due(0), 1);
        check.due("tick 59", x.due(59), 1);
        check.due("tick 60", x.due(60), 0);
        check.due("tick 300", x.due(300), 18);
        check.due("tick 360", x.due(360), 4);
        check.due("tick 719", x.due(719), 8);
        check.due("tick 720", x.due(720), 1);
        x.season(90);
        check.due("tick 539 of a long night", x.due(539), 18);
        check.due("tick 540 of a long night", x.due(540), 4);
        check.due("tick 570 of a long night", x.due(570), 0);
        check.due("tick 20000, which is 560 of its round", x.due(20000), 4);
        check.due("tick 19439, the last of its round", x.due(19439), 8);
        check.due("tick 20001", x.due(20001), Check.OUTSIDE);
        check.due("tick -1", x.due(-1), Check.OUTSIDE);
        for (int wild : Check.WILD) {
            check.due("due wild", x.due(wild), Check.OUTSIDE);
        }
    }

    private static void counts() {
        SmellHours x = new SmellHours();
        Check.lineClock(x, 0, 3, 0);
        Check.lineClock(x, 2, 3, 0);
        x.hang(0, 0);
        x.hang(0, 1);
        x.hang(2, 2);
        x.hear(4);
        x.link(0, 1, 2);
        x.link(0, 2, 2);
        x.again(0, 0, 9);
        x.again(0, 0, 8);
        x.again(0, 0, 7);
        x.again(0, 0, 7);
        x.feed(5, 0);
        x.season(77);
        int[] due = {3, 1, 2, 4, 2, 0, 5, 77};
        for (int what = 0; what < 8; what++) {
            check.due("count " + what, x.count(what), due[what]);
        }
        x.light(0, 0, 0);
        check.due("two are lit", x.count(5), 2);
        x.light(0, 2, 0);
        check.due("two still", x.count(5), 2);
        x.sweep(0, 0);
        check.due("one is lit, though it is bare", x.count(5), 1);
        Check.lineClock(x, 3, 1, 0);
        check.due("one of a single cell is mounted, too", x.count(4), 3);
        check.due("count 8", x.count(8), Check.OUTSIDE);
        check.due("count -1", x.count(-1), Check.OUTSIDE);
        for (int wild : Check.WILD) {
            check.due("count wild", x.count(wild), Check.OUTSIDE);
        }
    }
}
