/** Each promise by hand: ordinary calls, the edges that the document names, refusals. */
public final class PromisesTest {
    private static final int LOW = Integer.MIN_VALUE, HIGH = Integer.MAX_VALUE;
    private static final String FULL_PORT = "00,11,22,33,44,55;t22,l22,w22,m22";

    private PromisesTest() {
    }

    public static void main(String[] args) {
        newObject();
        letters();
        blank();
        faults();
        ports();
        sleepers();
        lying();
        tossers();
        most();
        kinds();
        landing();
        covering();
        tossing();
        winds();
        mornings();
        moving();
        training();
        stirring();
        allCovered();
        allInOrder();
        nights();
        odds();
        who();
        seeing();
        aiming();
        seasons();
        images();
        counts();
        digests();
        fullCounts();
        Checks.end("PromisesTest");
    }

    private static void same(String what, long got, long want) {
        Checks.same(what, got, want);
    }

    private static void newObject() {
        PancakePort p = new PancakePort();
        for (int what = 0; what <= 11; what++) {
            same("1: count(" + what + ") of a new object", p.count(what), what == 4 ? 1 : 0);
        }
        same("1: image", p.image(), Checks.STATE);
        same("1: restore", p.restore(), Checks.STATE);
        same("1: sleeper", p.sleeper(0, 0), Checks.UNKNOWN);
        same("1: tosser", p.tosser(0, 0), Checks.UNKNOWN);
        same("1: digest", p.digest(), digestOf(0, 0, 0, 0, 1, 0, 0, 0, 0, 0, 0, 0));
    }

    private static long digestOf(long... numbers) {
        long h = 1217;
        for (long number : numbers) {
            h = 31 * h + number;
        }
        return h;
    }

    private static void letters() {
        PancakePort p = new PancakePort();
        same("2: the first letter", p.letter(1), 1);
        same("2: the second letter", p.letter(126), 2);
        for (int code : new int[] {0, 127, -1, LOW, HIGH}) {
            Checks.refused("2: letter(" + code + ")", p, () -> p.letter(code), Checks.OUTSIDE);
        }
        for (int had = 2; had < 36; had++) {
            same("2: letter " + had, p.letter('a'), had + 1);
        }
        Checks.refused("2: a letter above 36", p, () -> p.letter('a'), Checks.FULL);
        Checks.refused("2: OUTSIDE goes ahead of FULL", p, () -> p.letter(0), Checks.OUTSIDE);
        same("2: the page", p.count(10), 36);
    }

    private static void blank() {
        PancakePort p = new PancakePort();
        same("3: an empty page", p.blank(), 0);
        Checks.write(p, "22;");
        same("3: three letters", p.blank(), 3);
        same("3: it is empty", p.count(10), 0);
        same("3: and stays so", p.blank(), 0);
        same("3: the next letter", p.letter('2'), 1);
    }

    private static void faults() {
        faultIs("", 0);
        faultIs("0", 1);
        faultIs("6", 0);
        faultIs("/", 0);
        faultIs("a", 0);
        faultIs(",", 0);
        faultIs(";", 0);
        faultIs("06", 1);
        faultIs("0/", 1);
        faultIs("0,", 1);
        faultIs("00", 2);
        faultIs("000", 2);
        faultIs("00,", 3);
        faultIs("00,00", 4);
        faultIs("00,01", 5);
        faultIs("00,0", 4);
        faultIs("00,10,0", 7);
        faultIs("00,10,00", 7);
        faultIs("00,10,10", 7);
        faultIs("00,11,10", 8);
        faultIs("00,;", 3);
        faultIs("00;", 3);
        faultIs("00;;", 3);
        faultIs("00;t", 4);
        faultIs("00;x", 3);
        faultIs("00;T", 3);
        faultIs("00;0", 3);
        faultIs("00;t5", 4);
        faultIs("00;t/", 4);
        faultIs("00;t4", 5);
        faultIs("00;t45", 5);
        faultIs("00;t44", 6);
        faultIs("00;t44;", 6);
        faultIs("00;t44 ", 6);
        faultIs("00;t440", 6);
        faultIs("00;t44,", 7);
        faultIs("00;t44,,", 7);
        faultIs("00;t44,t44", 10);
        faultIs("55;t00,l11,w33,h44", 18);
        faultIs("55;t00,l11,w33,m44", 18);
        faultIs("55;t00,l11,w33,m44,", 18);
        faultIs("00,01,02,03,04,05;", 18);
        faultIs("00,01,02,03,04,05,", 17);
        faultIs(FULL_PORT, 33);
        faultIs(FULL_PORT + ",", 33);
        faultIs("9" + FULL_PORT, 0);
    }

    private static void faultIs(String text, int place) {
        same("4: the fault of \"" + text + "\"", Checks.faultOf(text), place);
    }

    private static void ports() {
        for (String text : new String[] {"", "0", "00", "00,", "00;", "00;t", "00;t2", "00;t22,", "00;t22;", "00,00;t22"}) {
            PancakePort p = new PancakePort();
            Checks.write(p, text);
            Checks.refused("5: port of \"" + text + "\"", p, p::port, Checks.STATE);
            same("5: the page stays", p.count(10), text.length());
        }
        PancakePort p = new PancakePort();
        Checks.write(p, FULL_PORT);
        same("5: six sleepers", p.port(), 6);
        same("5: the page is empty", p.count(10), 0);
        same("5: read once", p.count(11), 1);
        same("5: sleepers", p.count(0), 6);
        same("5: tossers", p.count(1), 4);
        same("5: batter", p.count(3), 60);
        anotherPort();
    }

    private static void anotherPort() {
        PancakePort p = Checks.portOf("00,55;w22,h22");
        p.toss(0, 0);
        p.morning();
        p.toss(0, 0);
        p.wind(1);
        p.see(0, 1, 1);
        p.train(0, 4, 4);
        p.move(1, 1);
        p.image();
        Checks.write(p, "00,55;w22,h22");
        same("5: the port again", p.port(), 2);
        same("5: it is as a new one but for the ports read",
            p.digest() - p.count(11), Checks.portOf("00,55;w22,h22").digest() - 1);
        same("5: the image is gone", p.restore(), Checks.STATE);
        p.toss(0, 0);
        p.image();
        Checks.write(p, "9");
        long before = p.digest();
        same("5: no port", p.port(), Checks.STATE);
        same("5: the one that was stays", p.digest(), before);
        same("5: and its image", p.restore(), 0);
        p.blank();
        Checks.write(p, "33;m44");
        same("5: a smaller one", p.port(), 1);
        same("5: it has one sleeper", p.sleeper(1, 0), Checks.UNKNOWN);
        same("5: and one tosser", p.tosser(1, 0), Checks.UNKNOWN);
        same("5: who is a mayor", p.tosser(0, 0), 4);
        same("5: read three times", p.count(11), 3);
    }

    private static void sleepers() {
        PancakePort p = Checks.portOf("05,50,22;t22");
        same("6: cell", p.sleeper(0, 0), 5);
        same("6: cell", p.sleeper(1, 0), 30);
        same("6: cell", p.sleeper(2, 0), 14);
        same("6: not covered", p.sleeper(0, 1), 0);
        p.toss(0, 14);
        same("6: covered", p.sleeper(2, 1), 1);
        same("6: the other isn't", p.sleeper(1, 1), 0);
        p.morning();
        same("6: breakfast", p.sleeper(2, 2), 1);
        same("6: no cold", p.sleeper(2, 3), 0);
        same("6: no breakfast", p.sleeper(0, 2), 0);
        same("6: cold", p.sleeper(0, 3), 1);
        for (int sleeper : new int[] {-1, 3, LOW, HIGH}) {
            Checks.refused("6: sleeper " + sleeper, p, () -> p.sleeper(sleeper, 0), Checks.UNKNOWN);
            Checks.refused("6: UNKNOWN goes ahead", p, () -> p.sleeper(sleeper, 5), Checks.UNKNOWN);
        }
        for (int what : new int[] {-1, 5, LOW, HIGH}) {
            Checks.refused("6: what " + what, p, () -> p.sleeper(0, what), Checks.OUTSIDE);
        }
    }

    private static void lying() {
        PancakePort p = Checks.portOf("00,11,12;t22");
        same("6: LIE, where five tosses reach and nobody else lies", p.sleeper(0, 4), 9);
        same("6: LIE, his own cell counts", p.sleeper(1, 4), 7);
        same("6: LIE, his own cell isn't the least", p.sleeper(2, 4), 8);
        same("6: LIE of a mayor's port", Checks.portOf("00;m22").sleeper(0, 4), 7);
        PancakePort q = Checks.portOf("00,01;h22");
        same("6: LIE in a row", q.sleeper(0, 4), 2);
        same("6: LIE, his own", q.sleeper(1, 4), 1);
        q.wind(1);
        same("6: LIE, by the wind: nothing lands in column 0", q.sleeper(0, 4), 2);
        q.wind(-1);
        q.train(0, 2, 0);
        same("6: LIE, three columns leftward: only 0 to 2 have landings", q.sleeper(1, 4), 1);
        same("6: LIE, of the other: in the next row", q.sleeper(0, 4), 7);
        PancakePort r = Checks.portOf("00;l20");
        r.train(0, 0, 2);
        same("6: LIE, two rows northward: row 0 to 3 have landings", r.sleeper(0, 4), 7);
    }

    private static void tossers() {
        PancakePort p = Checks.portOf("00;t04,l13,w22,h31");
        int[][] due = {{0, 0, 4, 3}, {1, 1, 3, 2}, {2, 2, 2, 5}, {3, 3, 1, 1}};
        for (int tosser = 0; tosser < 4; tosser++) {
            for (int what = 0; what <= 3; what++) {
                same("7: tosser(" + tosser + ", " + what + ")", p.tosser(tosser, what), due[tosser][what]);
            }
            same("7: turns", p.tosser(tosser, 6), 31);
            same("7: aim", p.tosser(tosser, 7), 1);
            same("7: thrown", p.tosser(tosser, 8), 0);
        }
        PancakePort m = Checks.portOf("00;m40");
        same("7: a mayor's kind", m.tosser(0, 0), 4);
        same("7: a mayor's batter", m.tosser(0, 3), 4);
        p.toss(1, 0);
        p.toss(1, 0);
        p.toss(3, 0);
        same("7: thrown by one", p.tosser(1, 8), 2);
        same("7: thrown by another", p.tosser(3, 8), 1);
        same("7: thrown by a third", p.tosser(0, 8), 0);
        for (int tosser : new int[] {-1, 4, LOW, HIGH}) {
            Checks.refused("7: tosser " + tosser, p, () -> p.tosser(tosser, 0), Checks.UNKNOWN);
            Checks.refused("7: UNKNOWN goes ahead", p, () -> p.tosser(tosser, 9), Checks.UNKNOWN);
        }
        for (int what : new int[] {-1, 9, LOW, HIGH}) {
            Checks.refused("7: what " + what, p, () -> p.tosser(0, what), Checks.OUTSIDE);
        }
    }

    private static void most() {
        PancakePort p = Checks.portOf("22,24,33,42;t22,l22,w22,h22");
        same("7: MOST of a plain one: 23 is beside 22, 24 and 33", p.tosser(0, 4), 15);
        same("7: how many", p.tosser(0, 5), 3);
        same("7: MOST of a lacy one: at 33 with 22, 24, 42", p.tosser(1, 4), 21);
        same("7: how many", p.tosser(1, 5), 4);
        same("7: MOST of a wide one", p.tosser(2, 4), 21);
        same("7: how many", p.tosser(2, 5), 4);
        same("7: MOST of a thrifty one", p.tosser(3, 4), 15);
        same("7: how many", p.tosser(3, 5), 2);
        p.toss(3, 15);
        same("7: MOST of those who are not covered", p.tosser(3, 4), 20);
        same("7: how many", p.tosser(3, 5), 1);
        p.toss(2, 21);
        same("7: MOST, when all are covered: the least cell", p.tosser(2, 4), 0);
        same("7: none", p.tosser(2, 5), 0);
        PancakePort q = Checks.portOf("55;m22");
        same("7: a mayor aims beside", q.tosser(0, 4), 28);
        q.wind(1);
        same("7: by the wind", q.tosser(0, 4), 27);
        PancakePort r = Checks.portOf("50;h04");
        same("7: who can't reach him", r.tosser(0, 4), 0);
        same("7: covers none", r.tosser(0, 5), 0);
    }

    private static void kinds() {
        PancakePort p = Checks.portOf("00;t22,l22,w22,h22");
        PancakePort m = Checks.portOf("00;h22,m22");
        int n = Checks.NONE;
        int[][] due = {{0, n, n, n, n}, {1, 1, n, n, n}, {2, n, 2, n, n}, {3, n, n, 3, n}};
        for (int tosser = 0; tosser < 4; tosser++) {
            for (int kind = 0; kind <= 4; kind++) {
                same("8: as(" + tosser + ", " + kind + ")", p.as(tosser, kind), due[tosser][kind]);
            }
        }
        int[] mayor = {1, n, 1, n, 1};
        for (int kind = 0; kind <= 4; kind++) {
            same("8: a mayor as " + kind, m.as(1, kind), mayor[kind]);
        }
        for (int wrong : new int[] {-1, 5, LOW, HIGH}) {
            Checks.refused("8: kind " + wrong, p, () -> p.as(0, wrong), Checks.OUTSIDE);
            Checks.refused("8: UNKNOWN goes ahead", p, () -> p.as(4, wrong), Checks.UNKNOWN);
        }
        Checks.refused("8: tosser -1", p, () -> p.as(-1, 0), Checks.UNKNOWN);
        same("8: no port", new PancakePort().as(0, 0), Checks.UNKNOWN);
    }

    private static void landing() {
        PancakePort p = Checks.portOf("00;t22,t04,t40");
        same("9: straight", p.lands(0, 35), 35);
        same("9: northward and eastward", p.lands(1, 13), 3);
        same("9: beyond the north", p.lands(1, 11), Checks.NONE);
        same("9: beyond the east", p.lands(1, 16), Checks.NONE);
        same("9: to the last column", p.lands(1, 15), 5);
        same("9: southward and westward", p.lands(2, 2), 12);
        same("9: to the last row", p.lands(2, 23), 33);
        same("9: beyond the south", p.lands(2, 26), Checks.NONE);
        same("9: beyond the west", p.lands(2, 1), Checks.NONE);
        p.wind(1);
        same("9: by the wind", p.lands(0, 0), 1);
        same("9: the wind takes it away", p.lands(0, 5), Checks.NONE);
        same("9: the wind saves it", p.lands(2, 1), 12);
        p.wind(-1);
        same("9: westward", p.lands(0, 1), 0);
        same("9: beyond the west by the wind", p.lands(0, 6), Checks.NONE);
        unknownToss("9: lands", p, true);
    }

    private static void unknownToss(String what, PancakePort p, boolean landing) {
        for (int wrong : new int[] {-1, 36, LOW, HIGH}) {
            Checks.refused(what + " at " + wrong, p, () -> landing ? p.lands(0, wrong) : p.covers(0, wrong), Checks.UNKNOWN);
            Checks.refused(what + " by " + wrong, p, () -> landing ? p.lands(wrong, 0) : p.covers(wrong, 0), Checks.UNKNOWN);
        }
        PancakePort none = new PancakePort();
        same(what + " without a port", landing ? none.lands(0, 0) : none.covers(0, 0), Checks.UNKNOWN);
    }

    private static void covering() {
        String[] texts = {"22;t22", "22;l22", "22;w22", "22;h22", "22;m22"};
        String[] spreads = {" x xxx x ", "x x x x x", "xxxxxxxxx", "   xxx   ", "xxxx xxxx"};
        for (int kind = 0; kind < 5; kind++) {
            PancakePort p = Checks.portOf(texts[kind]);
            for (int cell = 0; cell < 36; cell++) {
                int south = 14 / 6 - cell / 6;
                int east = 14 % 6 - cell % 6;
                boolean near = Math.abs(south) <= 1 && Math.abs(east) <= 1;
                boolean covered = near && spreads[kind].charAt(3 * (south + 1) + east + 1) == 'x';
                same("10: covers(0, " + cell + ") of " + texts[kind], p.covers(0, cell), covered ? 1 : 0);
            }
        }
        PancakePort p = Checks.portOf("00,15,20,25;w22");
        same("10: nothing goes about the edge", p.covers(0, 12), 4);
        same("10: nor on the other side", p.covers(0, 17), 10);
        p.toss(0, 17);
        same("10: covered or not", p.covers(0, 17), 10);
        p.wind(1);
        same("10: beyond the square, none", p.covers(0, 17), 0);
        unknownToss("10: covers", p, false);
    }

    private static void tossing() {
        PancakePort p = Checks.portOf("00,01,02;h22,m22,w00");
        same("11: two are covered", p.toss(0, 0), 2);
        same("11: batter 1", p.count(3), 59);
        same("11: one more", p.toss(0, 1), 1);
        same("11: none more", p.toss(0, 1), 0);
        same("11: three are covered", p.count(2), 3);
        same("11: a mayor's", p.toss(1, 35), 0);
        same("11: batter 4", p.count(3), 53);
        same("11: it lands in none", p.toss(2, 0), 0);
        same("11: and takes its batter", p.count(3), 48);
        same("11: thrown", p.count(8), 5);
        for (int wrong : new int[] {-1, 36, LOW, HIGH}) {
            Checks.refused("11: at " + wrong, p, () -> p.toss(0, wrong), Checks.UNKNOWN);
            Checks.refused("11: by " + wrong, p, () -> p.toss(wrong, 0), Checks.UNKNOWN);
        }
        for (int time = 0; time < 9; time++) {
            p.toss(2, 14);
        }
        same("11: batter 3", p.count(3), 3);
        Checks.refused("11: too little batter", p, () -> p.toss(2, 14), Checks.STATE);
        Checks.refused("11: too little for a mayor", p, () -> p.toss(1, 14), Checks.STATE);
        Checks.refused("11: UNKNOWN goes ahead", p, () -> p.toss(2, 36), Checks.UNKNOWN);
        p.toss(0, 35);
        p.toss(0, 35);
        same("11: enough for one", p.toss(0, 35), 0);
        same("11: the batter is gone", p.count(3), 0);
        Checks.refused("11: no batter", p, () -> p.toss(0, 0), Checks.STATE);
        PancakePort all = Checks.portOf("00;t22,l22");
        all.toss(0, 0);
        same("11: a plain one takes 3", all.count(3), 57);
        all.toss(1, 0);
        same("11: a lacy one takes 2", all.count(3), 55);
        same("11: no port", new PancakePort().toss(0, 0), Checks.UNKNOWN);
    }

    private static void winds() {
        PancakePort none = new PancakePort();
        Checks.refused("12: no port", none, () -> none.wind(0), Checks.STATE);
        Checks.refused("12: OUTSIDE goes ahead", none, () -> none.wind(2), Checks.OUTSIDE);
        PancakePort p = Checks.portOf("00;t22");
        same("12: there was none", p.wind(1), 1);
        same("12: it was eastward", p.wind(-1), 2);
        same("12: it was westward", p.wind(0), 0);
        same("12: it was none", p.wind(0), 1);
        for (int wrong : new int[] {-2, 2, LOW, HIGH}) {
            Checks.refused("12: wind(" + wrong + ")", p, () -> p.wind(wrong), Checks.OUTSIDE);
        }
    }

    private static void mornings() {
        PancakePort none = new PancakePort();
        Checks.refused("13: no port", none, none::morning, Checks.STATE);
        PancakePort p = Checks.portOf("00,05,50;h22");
        same("13: all were cold", p.morning(), 0);
        p.wind(1);
        p.toss(0, 0);
        p.toss(0, 4);
        same("13: two had a breakfast", p.morning(), 2);
        same("13: nobody is covered any more", p.count(2), 0);
        same("13: all cold again", p.morning(), 0);
        same("13: mornings", p.count(5), 3);
        same("13: breakfasts", p.sleeper(0, 2), 1);
        same("13: cold", p.sleeper(0, 3), 2);
        same("13: breakfasts of all", p.count(6), 2);
        same("13: cold of all", p.count(7), 7);
        same("13: the wind stays", p.count(4), 2);
        same("13: the batter stays", p.count(3), 58);
    }

    private static void moving() {
        PancakePort p = Checks.portOf("00,05;w22");
        p.toss(0, 0);
        same("14: from cell 0", p.move(0, 1), 0);
        same("14: he lies there", p.sleeper(0, 0), 1);
        same("14: he isn't covered", p.sleeper(0, 1), 0);
        p.toss(0, 5);
        same("14: to his own cell", p.move(1, 5), 5);
        same("14: he isn't covered either", p.sleeper(1, 1), 0);
        p.toss(0, 0);
        Checks.refused("14: another one lies there", p, () -> p.move(1, 1), Checks.STATE);
        same("14: to the last cell", p.move(1, 35), 5);
        same("14: the other one stays covered", p.sleeper(0, 1), 1);
        for (int wrong : new int[] {-1, 36, LOW, HIGH}) {
            Checks.refused("14: to " + wrong, p, () -> p.move(0, wrong), Checks.UNKNOWN);
            Checks.refused("14: sleeper " + wrong, p, () -> p.move(wrong, 1), Checks.UNKNOWN);
        }
        same("14: no port", new PancakePort().move(0, 0), Checks.UNKNOWN);
    }

    private static void training() {
        PancakePort p = Checks.portOf("00;t13,l22");
        p.see(0, 1, 1);
        same("15: it did 3", p.train(0, 4, 0), 3);
        same("15: southward", p.tosser(0, 1), 4);
        same("15: eastward", p.tosser(0, 2), 0);
        same("15: the other's", p.tosser(1, 1), 2);
        same("15: what is seen stays", p.tosser(0, 6), 4);
        same("15: it did 0", p.train(0, 0, 4), 0);
        same("15: it lands so", p.lands(0, 12), 2);
        for (int wrong : new int[] {-1, 5, LOW, HIGH}) {
            Checks.refused("15: south " + wrong, p, () -> p.train(0, wrong, 0), Checks.OUTSIDE);
            Checks.refused("15: east " + wrong, p, () -> p.train(0, 0, wrong), Checks.OUTSIDE);
            Checks.refused("15: UNKNOWN goes ahead", p, () -> p.train(2, wrong, wrong), Checks.UNKNOWN);
        }
        Checks.refused("15: tosser -1", p, () -> p.train(-1, 0, 0), Checks.UNKNOWN);
        same("15: no port", new PancakePort().train(0, 0, 0), Checks.UNKNOWN);
    }

    private static void stirring() {
        PancakePort none = new PancakePort();
        Checks.refused("16: no port", none, () -> none.stir(1), Checks.STATE);
        Checks.refused("16: OUTSIDE goes ahead", none, () -> none.stir(61), Checks.OUTSIDE);
        PancakePort p = Checks.portOf("00;w22");
        Checks.refused("16: more than 99", p, () -> p.stir(40), Checks.FULL);
        same("16: up to 99", p.stir(39), 99);
        Checks.refused("16: one more", p, () -> p.stir(1), Checks.FULL);
        for (int wrong : new int[] {0, -1, 61, LOW, HIGH}) {
            Checks.refused("16: stir(" + wrong + ")", p, () -> p.stir(wrong), Checks.OUTSIDE);
        }
        for (int time = 0; time < 12; time++) {
            p.toss(0, 0);
        }
        same("16: 60 and 39", p.stir(60), 99);
    }

    private static void allCovered() {
        PancakePort none = new PancakePort();
        Checks.refused("17: no port", none, () -> none.all(0), Checks.STATE);
        Checks.refused("17: OUTSIDE goes ahead", none, () -> none.all(2), Checks.OUTSIDE);
        PancakePort p = Checks.portOf("00,01,02,55;w22,h22");
        same("17: two thrifty ones", p.all(0), 2);
        same("17: tosses", p.all(1), 2);
        same("17: in the row", p.all(10), 36 + 1);
        same("17: at the corner", p.all(11), 36 + 34);
        same("17: no third", p.all(12), Checks.NONE);
        p.toss(1, 35);
        same("17: those who are not covered", p.all(0), 1);
        same("17: one toss", p.all(1), 1);
        same("17: which", p.all(10), 37);
        p.toss(1, 1);
        same("17: all are covered: no batter", p.all(0), 0);
        same("17: no toss", p.all(1), 0);
        same("17: no first", p.all(10), Checks.NONE);
        for (int wrong : new int[] {-1, 2, 9, 16, LOW, HIGH}) {
            Checks.refused("17: all(" + wrong + ")", p, () -> p.all(wrong), Checks.OUTSIDE);
        }
        PancakePort far = Checks.portOf("00,55;w00");
        for (int what : new int[] {0, 1, 10, 15}) {
            same("17: it cannot be, all(" + what + ")", far.all(what), Checks.NONE);
        }
        far.toss(0, 14);
        same("17: nor behind the half", far.all(0), Checks.NONE);
        PancakePort poor = Checks.portOf("00,55;w22");
        for (int time = 0; time < 12; time++) {
            poor.toss(0, 14);
        }
        same("17: batter enough does not matter", poor.all(0), 10);
    }

    private static void allInOrder() {
        PancakePort fewest = Checks.portOf("00,01,02,10,12;h22,l22,t22,m22");
        // The mayor's one at 11 has all for 4; so do four by others, but more of them.
        same("17: least batter", fewest.all(0), 2);
        same("17: two thrifty", fewest.all(1), 2);
        PancakePort ring = Checks.portOf("00,02,20,22,11;h22,l22");
        same("17: one lacy for 2", ring.all(0), 2);
        same("17: one", ring.all(1), 1);
        same("17: at the middle", ring.all(10), 36 + 7);
        PancakePort two = Checks.portOf("00,11;h22,l22");
        same("17: of like batter the fewest", two.all(1), 1);
        same("17: the least lacy", two.all(10), 36);
        PancakePort first = Checks.portOf("22,55;h22,h22,h22");
        same("17: the first by numbers", first.all(10), 13);
        same("17: and the next", first.all(11), 34);
        PancakePort turned = Checks.portOf("55,30,00;h40,h24");
        // The first one's land in columns 0 to 3 and rows 2 to 5, the other's in columns 2 to 5.
        same("17: each row with the least ahead: 30, though he is told behind 55", turned.all(0), Checks.NONE);
        turned.move(2, 5);
        same("17: who lands in columns 0 to 3", turned.all(10), 8);
        same("17: the other tosser's northmost", turned.all(11), 36 + 2);
        same("17: the other tosser's southmost", turned.all(12), 36 + 32);
        PancakePort six = Checks.portOf("00,03,20,23,40,43;h22");
        int[] due = {0, 2, 12, 14, 24, 26};
        for (int place = 0; place < 6; place++) {
            same("17: the row's place " + place, six.all(10 + place), due[place]);
        }
    }

    private static void nights() {
        PancakePort none = new PancakePort();
        Checks.refused("18: no port", none, none::nights, Checks.STATE);
        PancakePort p = Checks.portOf("00,55;w22");
        same("18: six nights for 10", p.nights(), 6);
        p.toss(0, 0);
        same("18: covered or not, with 55", p.nights(), 5);
        p.toss(0, 35);
        same("18: though all are covered", p.nights(), 5);
        for (int time = 0; time < 9; time++) {
            p.toss(0, 14);
        }
        same("18: with 5, none", p.nights(), 0);
        p.stir(5);
        same("18: with 10, one", p.nights(), 1);
        p.train(0, 0, 0);
        same("18: it cannot be", p.nights(), Checks.NONE);
    }

    private static void odds() {
        PancakePort p = Checks.portOf("22,35;h22,t22,t24");
        same("19: whatever the wind", p.odds(0, 0, 14), 3);
        same("19: two of three", p.odds(0, 0, 13), 2);
        same("19: one of three", p.odds(0, 0, 12), 1);
        same("19: never", p.odds(0, 0, 17), 0);
        same("19: a plain one from above", p.odds(0, 1, 8), 1);
        same("19: at the edge, no wind beyond", p.odds(1, 0, 23), 2);
        same("19: by the wrist", p.odds(1, 2, 20), 2);
        p.wind(1);
        same("19: the wind as it is doesn't matter", p.odds(0, 0, 13), 2);
        p.toss(0, 13);
        same("19: nor whether he is covered", p.odds(0, 0, 13), 2);
        for (int wrong : new int[] {-1, 36, LOW, HIGH}) {
            Checks.refused("19: sleeper " + wrong, p, () -> p.odds(wrong, 0, 0), Checks.UNKNOWN);
            Checks.refused("19: tosser " + wrong, p, () -> p.odds(0, wrong, 0), Checks.UNKNOWN);
            Checks.refused("19: cell " + wrong, p, () -> p.odds(0, 0, wrong), Checks.UNKNOWN);
        }
        same("19: no port", new PancakePort().odds(0, 0, 0), Checks.UNKNOWN);
    }

    private static void who() {
        PancakePort none = new PancakePort();
        whoWithoutPort();
        PancakePort p = Checks.portOf("00;t22,t44,t00,t24");
        same("20: northwest", p.who(0), 1 + 4);
        same("20: southeast", p.who(35), 1 + 2 + 8);
        same("20: in the middle", p.who(14), 15);
        same("20: northeast", p.who(5), 1 + 8);
        same("20: column 1, row 2", p.who(13), 1 + 4);
        p.wind(1);
        same("20: by the wind, northwest", p.who(0), 4);
        same("20: by the wind, column 2", p.who(14), 1 + 4);
        same("20: by the wind, southeast", p.who(35), 1 + 2 + 8);
        p.wind(-1);
        same("20: by the other wind, southeast", p.who(35), 2 + 8);
        for (int wrong : new int[] {-1, 36, LOW, HIGH}) {
            Checks.refused("20: who(" + wrong + ")", p, () -> p.who(wrong), Checks.UNKNOWN);
            same("20: without a port, who(" + wrong + ")", none.who(wrong), Checks.UNKNOWN);
        }
    }

    private static void whoWithoutPort() {
        PancakePort p = new PancakePort();
        for (int cell = 0; cell < 36; cell++) {
            int asked = cell;
            Checks.refused("20: without a port, who(" + cell + ")", p, () -> p.who(asked), Checks.UNKNOWN);
        }
        Checks.write(p, "00;t2");
        same("20: a page that is no port", p.port(), Checks.STATE);
        same("20: is none for who, too", p.who(0), Checks.UNKNOWN);
        Checks.write(p, "2");
        same("20: nor is a whole page that isn't read yet", p.who(0), Checks.UNKNOWN);
        same("20: a port is read", p.port(), 1);
        same("20: then the cell is named", p.who(0), 1);
        same("20: and the last one", p.who(35), 1);
    }

    private static void seeing() {
        PancakePort p = Checks.portOf("00;t22,t22");
        p.wind(1);
        same("21: one", p.see(0, 2, 2), 1);
        same("21: turns: straight, without wind", p.tosser(0, 6), 4);
        same("21: the other's", p.tosser(1, 6), 31);
        same("21: two", p.see(1, 0, Checks.NONE), 2);
        same("21: turns beyond the west", p.tosser(1, 6), 3);
        same("21: three", p.see(1, 1, Checks.NONE), 3);
        same("21: turns farther", p.tosser(1, 6), 1);
        same("21: it cannot be, but is seen", p.see(0, 0, 5), 4);
        same("21: no turn", p.tosser(0, 6), 0);
        same("21: no aim", p.tosser(0, 7), Checks.NONE);
        for (int wrong : new int[] {-1, 6, LOW, HIGH}) {
            Checks.refused("21: aim " + wrong, p, () -> p.see(0, wrong, 0), Checks.OUTSIDE);
            Checks.refused("21: UNKNOWN goes ahead", p, () -> p.see(2, wrong, 0), Checks.UNKNOWN);
            Checks.refused("21: tosser -1", p, () -> p.see(-1, 0, 0), Checks.UNKNOWN);
        }
        for (int wrong : new int[] {-2, 6, LOW, HIGH}) {
            Checks.refused("21: column " + wrong, p, () -> p.see(0, 0, wrong), Checks.OUTSIDE);
        }
        same("21: five", p.see(0, 5, 5), 5);
        same("21: six", p.see(1, 5, 3), 6);
        Checks.refused("21: seven", p, () -> p.see(0, 0, 0), Checks.FULL);
        Checks.refused("21: OUTSIDE goes ahead of FULL", p, () -> p.see(0, 6, 0), Checks.OUTSIDE);
        same("22: six were", p.forget(), 6);
        same("22: none were", p.forget(), 0);
        same("22: all turns", p.tosser(0, 6), 31);
        same("22: one again", p.see(0, 5, Checks.NONE), 1);
        same("22: turns beyond the east", p.tosser(0, 6), 24);
        same("22: no port", new PancakePort().forget(), 0);
        same("21: no port", new PancakePort().see(0, 0, 0), Checks.UNKNOWN);
    }

    private static void aiming() {
        PancakePort p = Checks.portOf("00;t22");
        same("7: AIM of all turns", p.tosser(0, 7), 1);
        p.see(0, 0, Checks.NONE);
        same("7: turns 0 and 1", p.tosser(0, 6), 3);
        same("7: AIM that parts 0 from 1: at 1", p.tosser(0, 7), 1);
        p.forget();
        p.see(0, 5, Checks.NONE);
        same("7: turns 3 and 4", p.tosser(0, 6), 24);
        same("7: AIM that parts 3 from 4: at 0 already", p.tosser(0, 7), 0);
        p.forget();
        p.see(0, 1, Checks.NONE);
        same("7: turn 0 alone", p.tosser(0, 6), 1);
        same("7: AIM of one turn", p.tosser(0, 7), 0);
    }

    private static void seasons() {
        PancakePort none = new PancakePort();
        Checks.refused("23: no port", none, () -> none.seasons(1, 0, 0), Checks.STATE);
        Checks.refused("23: OUTSIDE goes ahead", none, () -> none.seasons(0, 0, 0), Checks.OUTSIDE);
        // From seed 0: 12345, 1406932606, 654583775: draws 0 of 3, 21468 % 2 = 0, 9988 % 36 = 16.
        PancakePort p = Checks.portOf("23,24;h22,m22");
        same("23: the wind is westward: at 15", p.seasons(1, 0, 0), 2);
        same("23: both were covered", p.seasons(1, 0, 1), 2);
        same("23: the seed then", p.seasons(1, 0, 2), 654583775);
        p.wind(1);
        same("23: the wind as it is doesn't matter", p.seasons(1, 0, 0), 2);
        p.toss(0, 13);
        same("23: nor who is covered", p.seasons(1, 0, 0), 2);
        Checks.refused("23: nothing is done", p, () -> p.seasons(60, 7, 1), p.seasons(60, 7, 1));
        PancakePort one = Checks.portOf("00,01,02,10,11,12;w22");
        int together = one.seasons(60, 1, 0);
        same("23: more often together than at all", together > 6 && one.seasons(60, 1, 1) <= 6 ? 1 : 0, 1);
        same("23: the greatest seed", one.seasons(1, HIGH, 2), seedBehind(HIGH, 3));
        same("23: sixty times", one.seasons(60, 5, 2), seedBehind(5, 180));
        for (int wrong : new int[] {0, -1, 61, LOW, HIGH}) {
            Checks.refused("23: times " + wrong, p, () -> p.seasons(wrong, 0, 0), Checks.OUTSIDE);
        }
        for (int wrong : new int[] {-1, LOW}) {
            Checks.refused("23: seed " + wrong, p, () -> p.seasons(1, wrong, 0), Checks.OUTSIDE);
        }
        for (int wrong : new int[] {-1, 3, LOW, HIGH}) {
            Checks.refused("23: what " + wrong, p, () -> p.seasons(1, 0, wrong), Checks.OUTSIDE);
        }
    }

    private static long seedBehind(long seed, int draws) {
        java.math.BigInteger now = java.math.BigInteger.valueOf(seed);
        for (int draw = 0; draw < draws; draw++) {
            now = now.multiply(java.math.BigInteger.valueOf(1103515245)).add(java.math.BigInteger.valueOf(12345))
                .mod(java.math.BigInteger.TWO.pow(31));
        }
        return now.longValue();
    }

    private static void images() {
        PancakePort none = new PancakePort();
        Checks.refused("24: no port", none, none::image, Checks.STATE);
        Checks.refused("25: none kept", none, none::restore, Checks.STATE);
        PancakePort p = Checks.portOf("00,05;w22,t13");
        Checks.refused("25: none kept yet", p, p::restore, Checks.STATE);
        p.toss(0, 0);
        p.morning();
        p.toss(0, 5);
        p.wind(-1);
        p.see(1, 2, 3);
        same("24: one morning", p.image(), 1);
        long kept = p.digest();
        p.morning();
        p.move(0, 20);
        p.train(1, 4, 4);
        p.wind(1);
        p.stir(9);
        p.toss(1, 14);
        p.see(1, 0, 5);
        p.forget();
        p.see(0, 5, 5);
        p.morning();
        same("25: one morning", p.restore(), 1);
        same("25: all is as it was", p.digest(), kept);
        p.morning();
        same("25: again", p.restore(), 1);
        same("25: all is as it was", p.digest(), kept);
        p.morning();
        same("24: the latest", p.image(), 2);
        p.morning();
        same("25: the latest", p.restore(), 2);
        Checks.write(p, "00");
        p.restore();
        same("25: the page isn't kept", p.count(10), 2);
        Checks.write(p, ",05;w22,t13");
        p.port();
        Checks.refused("25: a port was read since", p, p::restore, Checks.STATE);
        same("24: a new one", p.image(), 0);
        same("25: of the new port", p.restore(), 0);
        same("25: ports read", p.count(11), 2);
    }

    private static void counts() {
        PancakePort p = Checks.portOf("00,02,55;h22,w22");
        p.toss(0, 1);
        p.morning();
        p.morning();
        p.toss(1, 35);
        p.wind(1);
        p.see(0, 0, 0);
        p.see(0, 0, 0);
        Checks.write(p, "abc");
        int[] due = {3, 2, 1, 54, 2, 2, 2, 4, 2, 2, 3, 1};
        for (int what = 0; what <= 11; what++) {
            same("26: count(" + what + ")", p.count(what), due[what]);
        }
        for (int wrong : new int[] {-1, 12, LOW, HIGH}) {
            Checks.refused("26: count(" + wrong + ")", p, () -> p.count(wrong), Checks.OUTSIDE);
        }
    }

    private static void digests() {
        PancakePort p = Checks.portOf("22;h22");
        p.toss(0, 14);
        Checks.write(p, "a;");
        same("27: each number in its order", p.digest(), digestOf(
            14, 1, 0, 0, 1,
            3, 2, 2, 1, 0, 0, 31, 1, 1, 14, 1,
            0, 0, -1, -1, -1, -1, -1, -1, 59, 1, 1,
            'a', ';',
            1, 1, 1, 59, 1, 0, 0, 0, 1, 0, 2, 1));
        PancakePort none = new PancakePort();
        Checks.write(none, "00");
        same("27: without a port", none.digest(), digestOf('0', '0', 0, 0, 0, 0, 1, 0, 0, 0, 0, 0, 2, 0));
    }

    /** The document's 999 lie beyond the 512 calls that it promises; the class keeps to them all the same. */
    private static void fullCounts() {
        PancakePort p = Checks.portOf("00;h22,w22");
        for (int time = 1; time <= 999; time++) {
            p.toss(0, 0);
            p.stir(1);
            p.morning();
        }
        same("11: 999 were thrown", p.count(8), 999);
        Checks.refused("11: one more", p, () -> p.toss(0, 0), Checks.FULL);
        same("13: 999 mornings", p.count(5), 999);
        Checks.refused("13: one more", p, p::morning, Checks.FULL);
        PancakePort poor = Checks.portOf("00;h22,w22");
        for (int time = 1; time <= 999; time++) {
            poor.toss(0, 0);
            poor.stir(time <= 943 ? 1 : 61);
        }
        same("11: batter 4 behind 999", poor.count(3), 4);
        Checks.refused("11: STATE goes ahead of FULL", poor, () -> poor.toss(1, 0), Checks.STATE);
        Checks.refused("11: FULL for the other", poor, () -> poor.toss(0, 0), Checks.FULL);
    }
}
