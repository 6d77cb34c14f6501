/** Promises 39 to 46, sentence by sentence: each stands word for word, with a test of its own that goes to its edges. */
public final class WatchEdgesTest {
    private static final Edges edges = new Edges();

    public static void main(String[] args) {
        seasons();
        watches();
        feeds();
        texts();
        clauses();
        numbers();
        faultsOne();
        faultsTwoToFour();
        faultBytes();
        rules();
        dues();
        counts();
        edges.end(39, 46);
    }

    private static void due(String call, long got, long want) {
        edges.due(call, got, want);
    }

    /** Reads a text: what is due, and the byte of its fault. */
    private static void reading(SmellHours x, String text, int due, int spot) {
        Check.feed(x, text);
        due("bytes of '" + text + "'", x.count(6), text.length());
        due("read '" + text + "'", x.read(), due);
        due("fault of '" + text + "'", x.fault(), spot);
        due("empty behind '" + text + "'", x.count(6), 0);
    }

    private static void good(SmellHours x, String text, int clauses) {
        reading(x, text, clauses, Edges.NONE);
    }

    private static void seasons() {
        edges.sentence(39, "A SEASON: a night HOUR N ticks (30 .. 90; 60 at first)", x -> {
            due("29", x.season(29), Edges.OUTSIDE);
            due("91", x.season(91), Edges.OUTSIDE);
            for (int wild : Edges.WILD) {
                due("season(" + wild + ")", x.season(wild), Edges.OUTSIDE);
            }
            due("at first", x.count(7), 60);
            due("30", x.season(30), 60);
            due("90", x.season(90), 30);
            due("N", x.count(7), 90);
        });
        edges.sentence(39, "N becomes v: what it was. OUTSIDE.", x -> {
            due("45", x.season(45), 60);
            due("45 again", x.season(45), 45);
            due("refused", x.season(0), Edges.OUTSIDE);
            due("45 still", x.season(60), 45);
        });
    }

    private static void watches() {
        edges.sentence(40, "WATCH k (0 .. 11) begins at k N for k up to 6, else at 6 N and (k - 6) (120 - N), counted from dusk", x -> {
            int[] seasons = {30, 31, 60, 89, 90};
            for (int n : seasons) {
                x.season(n);
                for (int k = 0; k < 12; k++) {
                    int begin = k <= 6 ? k * n : 6 * n + (k - 6) * (120 - n);
                    due("watch at its begin", x.watch(begin, 0), k);
                    due("begin of watch " + k, x.watch(begin, 1), begin);
                    due("watch a tick ahead", x.watch(begin + 719, 0), (k + 11) % 12);
                    due("left a tick ahead", x.watch(begin + 719, 2), 1);
                }
            }
        });
        edges.sentence(40, "a day HOUR 120 less N", x -> {
            int[][] rows = {{30, 30, 90}, {60, 60, 60}, {90, 90, 30}};
            for (int[] row : rows) {
                x.season(row[0]);
                due("watch 5 in all", x.watch(5 * row[0], 2), row[1]);
                due("watch 6 in all", x.watch(6 * row[0], 2), row[2]);
                due("watch 11 in all", x.watch(720 - row[2], 2), row[2]);
            }
        });
        edges.sentence(40, "WATCHES go round in 720 ticks.", x -> {
            x.season(37);
            due("719", x.watch(719, 0), 11);
            due("720", x.watch(720, 0), 0);
            due("720 begins", x.watch(720, 1), 720);
            due("720 has left", x.watch(720, 2), 37);
            due("1439", x.watch(1439, 0), 11);
            due("1439 begins", x.watch(1439, 1), 1440 - 83);
            due("1440", x.watch(1440, 1), 1440);
            due("19439", x.watch(19439, 0), 11);
            due("19440", x.watch(19440, 0), 0);
        });
        edges.sentence(40, "Of a tick from dusk (0 .. 20000): what = 0 its WATCH", x -> {
            due("-1", x.watch(-1, 0), Edges.OUTSIDE);
            due("20001", x.watch(20001, 0), Edges.OUTSIDE);
            due("0", x.watch(0, 0), 0);
            due("0 begins", x.watch(0, 1), 0);
            due("0 has left", x.watch(0, 2), 60);
            due("20000", x.watch(20000, 0), 9);
            due("20000 begins", x.watch(20000, 1), 19980);
            due("20000 has left", x.watch(20000, 2), 40);
            for (int wild : Edges.WILD) {
                due("tick " + wild, x.watch(wild, 2), Edges.OUTSIDE);
            }
        });
        edges.sentence(40, "2 how many ticks it has left, its own among them. OUTSIDE.", x -> {
            due("the first", x.watch(60, 2), 60);
            due("the last but one", x.watch(118, 2), 2);
            due("the last", x.watch(119, 2), 1);
            due("what -1", x.watch(0, -1), Edges.OUTSIDE);
            due("what 3", x.watch(0, 3), Edges.OUTSIDE);
            for (int wild : Edges.WILD) {
                due("what " + wild, x.watch(0, wild), Edges.OUTSIDE);
            }
        });
        edges.sentence(40, "1 the tick at which that begins (the latest)", x -> {
            due("of the first round", x.watch(61, 1), 60);
            due("of the second round", x.watch(781, 1), 780);
            x.season(90);
            due("day of the third round", x.watch(1440 + 599, 1), 1440 + 570);
        });
    }

    private static void feeds() {
        edges.sentence(41, "The n lowest bytes (n 1 .. 8) of a long, the highest of these first, come behind THE TEXT: how many it has.", x -> {
            due("0", x.feed(0, 0x20), Edges.OUTSIDE);
            due("9", x.feed(9, 0x20), Edges.OUTSIDE);
            for (int wild : Edges.WILD) {
                due("feed " + wild, x.feed(wild, 0x20), Edges.OUTSIDE);
            }
            due("none", x.count(6), 0);
            due("8: watch 3 and a blank", x.feed(8, 0x7761746368203320L), 8);
            due("4: bell, with other bytes above", x.feed(4, 0x7f7f7f7f62656c6cL), 12);
            due("1: a sign alone", x.feed(1, 0xffffffffffffff3bL), 13);
            due("read", x.read(), 1);
            due("words", x.words(3), 1);
        });
        edges.sentence(41, "The n lowest bytes", x -> {
            due("a byte 255", x.feed(1, -1L), 1);
            due("read", x.read(), -11);
            due("the highest bit", x.feed(8, Long.MIN_VALUE), 8);
            due("read that", x.read(), -11);
            due("its byte", x.fault(), 0);
            due("7 of 8", x.feed(7, 0x2120202020202020L), 7);
            due("blanks", x.read(), 0);
            due("8 of 8", x.feed(8, 0x2120202020202020L), 8);
            due("the first one cannot stand", x.read(), -11);
        });
        edges.sentence(41, "A RULE of them is a text (160 bytes at most)", x -> {
            for (int k = 1; k < 20; k++) {
                x.feed(8, 0x2020202020202020L);
            }
            due("152", x.count(6), 152);
            due("1", x.feed(1, 0x20), 153);
            due("8 to 153", x.feed(8, 0x2020202020202020L), Edges.FULL);
            due("153 still", x.count(6), 153);
            due("7 to 153", x.feed(7, 0x20202020202020L), 160);
            due("1 to 160", x.feed(1, 0x20), Edges.FULL);
            due("0 to 160", x.feed(0, 0x20), Edges.OUTSIDE);
            due("160 blanks", x.read(), 0);
            due("room again", x.feed(8, 0x2020202020202020L), 8);
            for (int k = 2; k <= 20; k++) {
                x.feed(8, k < 20 ? 0x2020202020202020L : 0x2020202020202021L);
            }
            due("the last of 160 cannot stand", x.read(), -11);
            due("its byte", x.fault(), 159);
        });
        edges.sentence(41, "OUTSIDE, FULL.", x -> {
            for (int k = 1; k <= 20; k++) {
                due("feed " + k, x.feed(8, 0x2020202020202020L), 8 * k);
            }
            due("n 9, when full", x.feed(9, 0), Edges.OUTSIDE);
            due("n 8, when full", x.feed(8, 0), Edges.FULL);
            due("n 1, when full", x.feed(1, 0), Edges.FULL);
        });
    }

    private static void texts() {
        edges.sentence(42, "An empty text (or one of blanks alone) has no FAULT.", x -> {
            good(x, "watch 1 bell;", 1);
            good(x, "", 0);
            due("no words", x.words(1), 0);
            good(x, "watch 1 bell;", 1);
            good(x, " ", 0);
            due("no words then", x.words(1), 0);
            good(x, "     ", 0);
        });
        edges.sentence(42, "THE TEXT (it is empty then, with a FAULT, too) becomes the RULE", x -> {
            Check.feed(x, "watch 1 bell;");
            due("no rule yet", x.words(1), 0);
            due("read", x.read(), 1);
            due("the rule", x.words(1), 1);
            due("empty", x.count(6), 0);
            Check.feed(x, "watch 1 bell");
            due("read with a fault", x.read(), -11);
            due("empty, too", x.count(6), 0);
            due("nothing of it comes ahead of the next", x.feed(1, ';'), 1);
            due("a sign alone", x.read(), -11);
            due("at 0", x.fault(), 0);
        });
        edges.sentence(42, "(all WATCHES that it does not tell have no words)", x -> {
            good(x, "watch 0 bell;watch 11 drum;", 2);
            good(x, "watch 5 light;", 1);
            for (int k = 0; k < 12; k++) {
                due("words(" + k + ")", x.words(k), k == 5 ? 2 : 0);
            }
        });
        edges.sentence(42, "how many clauses; -10 less the number of its FAULT (the RULE is as it was).", x -> {
            good(x, "watch 2 bell,drum;watch 3 sleep;", 2);
            String[] faulty = {"watch 2 light;watch 3", "watch 2 light;watch 12", "watch 2 light;watch 2", "watch 2 light,light"};
            for (int k = 0; k < faulty.length; k++) {
                Check.feed(x, faulty[k]);
                due("read " + faulty[k], x.read(), -11 - k);
                due("words(2)", x.words(2), 17);
                due("words(3)", x.words(3), 8);
            }
        });
    }

    private static void clauses() {
        edges.sentence(42, "clause = 'watch' N word {',' word} ';'.", x -> {
            good(x, "watch 1 bell;", 1);
            good(x, "watch 1 bell,light;", 1);
            good(x, "watch 1 drum,sleep,sweep,light,bell;", 1);
            due("all words", x.words(1), 31);
            reading(x, "watch 1;", -11, 7);
            reading(x, "watch 1,bell;", -11, 7);
            reading(x, "watch 1 bell,;", -11, 13);
            reading(x, "watch 1 bell light;", -11, 13);
            reading(x, "watch 1 bell;;", -11, 13);
            reading(x, "1 bell;", -11, 0);
            reading(x, "watch bell;", -11, 6);
            reading(x, "watch watch 1 bell;", -11, 6);
        });
        edges.sentence(42, "word = 'bell' | 'light' | 'sweep' | 'sleep' | 'drum'.", x -> {
            String[] words = {"bell", "light", "sweep", "sleep", "drum"};
            for (int k = 0; k < words.length; k++) {
                good(x, "watch " + k + " " + words[k] + ";", 1);
                due(words[k], x.words(k), 1 << k);
                reading(x, "watch 0 " + words[k] + "s;", -11, 8);
                reading(x, "watch 0 " + words[k].substring(1) + ";", -11, 8);
                reading(x, "watch 0 " + words[k].substring(0, words[k].length() - 1) + ";", -11, 8);
            }
        });
        edges.sentence(42, "Blanks (32) may stand anywhere but within words and numbers", x -> {
            good(x, "watch1bell,light;watch2drum;", 2);
            good(x, "  watch  1  bell  ,  light  ;  watch  2  drum  ;  ", 2);
            reading(x, "wa tch 1 bell;", -11, 0);
            reading(x, "watch 1 be ll;", -11, 8);
            reading(x, "watch 1 1 bell;", -11, 8);
            char[] others = {0, 9, 10, 13, 31, 33, 160};
            for (char other : others) {
                reading(x, other + "watch 1 bell;", -11, 0);
                reading(x, "watch" + other + "1 bell;", -11, 5);
                reading(x, "watch 1 bell;" + other, -11, 13);
            }
        });
        edges.sentence(42, "words are letters a .. z side by side.", x -> {
            reading(x, "watch 1 bell`;", -11, 12);
            reading(x, "watch 1 bell{;", -11, 12);
            reading(x, "watch 1 bella;", -11, 8);
            reading(x, "watch 1 bellz;", -11, 8);
            reading(x, "watch 1 abell;", -11, 8);
            reading(x, "watch 1 zbell;", -11, 8);
            reading(x, "Watch 1 bell;", -11, 0);
            reading(x, "watch 1 bellA;", -11, 12);
            reading(x, "watchbell", -11, 0);
            reading(x, "watch 1 belllight;", -11, 8);
        });
    }

    private static void numbers() {
        edges.sentence(42, "N: a number 0 to 11 of one or two figures.", x -> {
            for (int k = 0; k < 12; k++) {
                good(x, "watch " + k + " bell;", 1);
                due("words(" + k + ")", x.words(k), 1);
            }
            for (int k = 0; k < 10; k++) {
                good(x, "watch 0" + k + " drum;", 1);
                due("words(" + k + ") of two figures", x.words(k), 16);
            }
            reading(x, "watch 12 bell;", -12, 6);
            reading(x, "watch 000 bell;", -12, 6);
        });
        edges.sentence(42, "2 a number of three figures or more, or above 11 (at its first figure).", x -> {
            reading(x, "watch 12", -12, 6);
            reading(x, "watch 19", -12, 6);
            reading(x, "watch 20", -12, 6);
            reading(x, "watch 99bell;", -12, 6);
            reading(x, "watch 001", -12, 6);
            reading(x, "watch 011 bell;", -12, 6);
            reading(x, "watch   111", -12, 8);
            reading(x, "watch 00000000000000000000000000000000000000001", -12, 6);
            reading(x, "watch 4294967296 bell;", -12, 6);
            reading(x, "watch 18446744073709551616 bell;", -12, 6);
        });
        edges.sentence(42, "3 a WATCH again (at its first figure).", x -> {
            reading(x, "watch 0 bell;watch 0 bell;", -13, 19);
            reading(x, "watch 11 bell;watch 11 drum;", -13, 20);
            reading(x, "watch 1 bell;watch 01 drum;", -13, 19);
            reading(x, "watch 01 bell;watch   1", -13, 22);
            reading(x, "watch 1 bell;watch 2 bell;watch 1 drum;", -13, 32);
            good(x, "watch 1 bell;watch 11 bell;watch 10 bell;watch 0 bell;", 4);
            good(x, "watch 1 bell;", 1);
            good(x, "watch 1 bell;", 1);
        });
        edges.sentence(42, "4 a word again in its clause (at its first letter).", x -> {
            reading(x, "watch 1 bell,bell;", -14, 13);
            reading(x, "watch 1 drum,bell,drum", -14, 18);
            reading(x, "watch 1 bell, light , sweep,sleep,drum, bell", -14, 40);
            reading(x, "watch 1 bell;watch 2 light,light;", -14, 27);
            good(x, "watch 1 bell,light;watch 2 light,bell;", 2);
        });
    }

    private static void faultsOne() {
        edges.sentence(42, "1 it cannot stand there (a word that cannot: at its first letter).", x -> {
            reading(x, "bell;", -11, 0);
            reading(x, "wat", -11, 0);
            reading(x, "  watches 1 bell;", -11, 2);
            reading(x, "watch drum;", -11, 6);
            reading(x, "watch 1 watch;", -11, 8);
            reading(x, "watch 1 bell,watch 2", -11, 13);
            reading(x, "watch 1 bell watch", -11, 13);
            reading(x, "watch 1 bell;bell;", -11, 13);
            reading(x, "watch 1 xbellxbellxbellxbell;", -11, 8);
        });
        edges.sentence(42, "1 it cannot stand there", x -> {
            String signs = ",;.:-+/!?'\"0";
            for (int k = 0; k < signs.length(); k++) {
                char sign = signs.charAt(k);
                reading(x, sign + "", -11, 0);
                reading(x, "watch 1 bell;" + sign, -11, 13);
                reading(x, "watch 1 " + sign + "bell;", -11, 8);
                if (sign != '0') {
                    reading(x, "watch " + sign + "1 bell;", -11, 6);
                }
                if (sign != ',' && sign != ';') {
                    reading(x, "watch 1 bell" + sign + ";", -11, 12);
                }
            }
        });
        edges.sentence(42, "(the end at the text's length)", x -> {
            reading(x, "watch", -11, 5);
            reading(x, "watch ", -11, 6);
            reading(x, "watch 1", -11, 7);
            reading(x, "watch 11  ", -11, 10);
            reading(x, "watch 1 bell", -11, 12);
            reading(x, "watch 1 bell  ", -11, 14);
            reading(x, "watch 1 bell,", -11, 13);
            reading(x, "watch 1 bell;watch", -11, 18);
            StringBuilder full = new StringBuilder("watch 1 bell");
            while (full.length() < 160) {
                full.append(' ');
            }
            reading(x, full.toString(), -11, 160);
        });
    }

    private static void faultsTwoToFour() {
        edges.sentence(42, "of these the least", x -> {
            // A number that cannot stand is of three figures, above 11 or a watch again, too.
            reading(x, "watch 1 bell 123;", -11, 13);
            reading(x, "watch 1 bell 12;", -11, 13);
            reading(x, "watch 1 bell 1;", -11, 13);
            reading(x, "watch 1 1;", -11, 8);
            reading(x, "123", -11, 0);
            reading(x, "watch 1 bell bell;", -11, 13);
            reading(x, "watch 1 bell;watch 001 bell;", -12, 19);
        });
        edges.sentence(42, "FAULTS, at the first byte that has one", x -> {
            reading(x, "watch 12 bell,bell;!", -12, 6);
            reading(x, "watch 1 bell,bell;watch 12", -14, 13);
            reading(x, "watch 1 bell;watch 1 x", -13, 19);
            reading(x, "watch 1 x;watch 12", -11, 8);
            reading(x, "watch 1 bell,bellx,bell", -11, 13);
            reading(x, "watch 1 bell,bell", -14, 13);
        });
    }

    private static void faultBytes() {
        edges.sentence(43, "The byte of the FAULT of the latest read(); NONE.", x -> {
            due("no read yet", x.fault(), Edges.NONE);
            Check.feed(x, "watch 1 !");
            due("fed, not read", x.fault(), Edges.NONE);
            due("read", x.read(), -11);
            due("its byte", x.fault(), 8);
            Check.feed(x, "watch 1 bell;");
            due("till the next read", x.fault(), 8);
            due("read without one", x.read(), 1);
            due("none", x.fault(), Edges.NONE);
            reading(x, "!", -11, 0);
            due("read nothing", x.read(), 0);
            due("none of that", x.fault(), Edges.NONE);
        });
    }

    private static void rules() {
        edges.sentence(44, "The words of a WATCH (0 .. 11), as a SET. OUTSIDE.", x -> {
            for (int k = 0; k < 12; k++) {
                due("none at first", x.words(k), 0);
            }
            good(x, "watch 0 bell,drum;watch 11 light,sleep;", 2);
            due("0", x.words(0), 17);
            due("11", x.words(11), 10);
            due("-1", x.words(-1), Edges.OUTSIDE);
            due("12", x.words(12), Edges.OUTSIDE);
            for (int wild : Edges.WILD) {
                due("words(" + wild + ")", x.words(wild), Edges.OUTSIDE);
            }
        });
        edges.sentence(44, "(bits 0 to 4 in the order above)", x -> {
            good(x, "watch 0 bell;watch 1 light;watch 2 sweep;watch 3 sleep;watch 4 drum;watch 5 drum,sleep,sweep,light,bell;", 6);
            int[] sets = {1, 2, 4, 8, 16, 31};
            for (int k = 0; k < 6; k++) {
                due("words(" + k + ")", x.words(k), sets[k]);
            }
        });
        edges.sentence(44, "is a text (160 bytes at most): clause", x -> {
            // Twelve clauses; the last of 160 bytes is a sign that ends one.
            StringBuilder all = new StringBuilder();
            for (int k = 0; k < 12; k++) {
                all.append("watch").append(k).append("sweep;");
            }
            all.setLength(all.length() - 1);
            while (all.length() < 159) {
                all.append(' ');
            }
            good(x, all.append(';').toString(), 12);
            for (int k = 0; k < 12; k++) {
                due("words(" + k + ")", x.words(k), 4);
            }
        });
    }

    private static void dues() {
        edges.sentence(45, "DUE at a tick: the words of the WATCH that it is in, as a SET", x -> {
            good(x, "watch 0 bell;watch 5 drum;watch 6 light;watch 11 sleep;", 4);
            x.season(30);
            int[][] rows = {{0, 1}, {29, 1}, {30, 0}, {149, 0}, {150, 16}, {179, 16}, {180, 2}, {269, 2}, {270, 0}, {629, 0},
                {630, 8}, {719, 8}, {720, 1}, {749, 1}, {750, 0}};
            for (int[] row : rows) {
                due("due(" + row[0] + ")", x.due(row[0]), row[1]);
            }
            x.season(90);
            due("with another season", x.due(89), 1);
            due("at noon", x.due(540), 2);
            due("a tick ahead of it", x.due(539), 16);
        });
        edges.sentence(45, "DUE at a tick from dusk (0 .. 20000). OUTSIDE.", x -> {
            due("no rule", x.due(0), 0);
            good(x, "watch 0 bell;watch 9 drum;", 2);
            due("-1", x.due(-1), Edges.OUTSIDE);
            due("0", x.due(0), 1);
            due("20000", x.due(20000), 16);
            due("20001", x.due(20001), Edges.OUTSIDE);
            for (int wild : Edges.WILD) {
                due("due(" + wild + ")", x.due(wild), Edges.OUTSIDE);
            }
        });
    }

    private static void counts() {
        edges.sentence(46, "0 BALLS, 1 ticks HEARD, 2 LINKS, 3 AGAINS, 4 CLOCKS that are MOUNTED, 5 those that are LIT in THE NIGHT, "
            + "6 bytes of THE TEXT, 7 N. OUTSIDE.", x -> {
                for (int what = 0; what < 8; what++) {
                    due("at first, what = " + what, x.count(what), what == 7 ? 60 : 0);
                }
                due("what -1", x.count(-1), Edges.OUTSIDE);
                due("what 8", x.count(8), Edges.OUTSIDE);
                for (int wild : Edges.WILD) {
                    due("what " + wild, x.count(wild), Edges.OUTSIDE);
                }
            });
        edges.sentence(46, "4 CLOCKS that are MOUNTED", x -> {
            Check.line(x, 0, 1);
            for (int c = 0; c < 4; c++) {
                x.mount(c, 0);
                due("mounted", x.count(4), c + 1);
            }
            x.mount(0, 0);
            due("anew", x.count(4), 4);
        });
        edges.sentence(46, "5 those that are LIT in THE NIGHT", x -> {
            Check.line(x, 0, 2);
            for (int c = 0; c < 4; c++) {
                x.mount(c, 0);
            }
            x.light(3, 0, 5999);
            due("a bare one is lit", x.count(5), 1);
            x.light(0, 1, 0);
            x.link(0, 1, 2);
            due("no cell begins, so no link lights", x.count(5), 2);
            x.bring(0, 0, 1);
            x.lay(0, 1, 0, 0);
            due("a link lights one", x.count(5), 3);
            x.light(1, 0, 0);
            due("all", x.count(5), 4);
            x.calm();
            due("none", x.count(5), 0);
        });
        edges.sentence(46, "How many: 0 BALLS, 1 ticks HEARD, 2 LINKS, 3 AGAINS", x -> {
            Check.lineClock(x, 0, 2, 0);
            Check.lineClock(x, 1, 2, 0);
            for (int k = 0; k < 12; k++) {
                x.hang(0, 0);
                x.hear(k);
                x.hear(k);
                x.link(0, 0, 1);
                x.again(0, 0, k);
            }
            int[] most = {12, 24, 12, 12};
            for (int what = 0; what < 4; what++) {
                due("at most, what = " + what, x.count(what), most[what]);
            }
            x.dawn();
            due("balls behind dawn", x.count(0), 12);
            due("heard behind dawn", x.count(1), 24);
            due("links behind dawn", x.count(2), 0);
            due("agains behind dawn", x.count(3), 0);
        });
    }
}
