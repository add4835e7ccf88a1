/** The edges of what would be: all covered, how many nights, how likely, by whom: promises 17 to 20. */
public final class ForeseenBoundariesTest {
    private static final int LOW = Integer.MIN_VALUE, HIGH = Integer.MAX_VALUE;

    private ForeseenBoundariesTest() {
    }

    public static void main(String[] args) {
        allOfNobody();
        allOfOneToSix();
        allOfThoseWhoAreNotCovered();
        allWhateverBatterThereIs();
        allWithLeastBatter();
        allOfTheseTheFewest();
        allFirstByNumbers();
        allAtTheFirstAndLastToss();
        allByTheWind();
        allThatCannotBe();
        allRefused();
        nightsWithJustEnough();
        nightsCoveredOrNot();
        nightsThatCannotBe();
        oddsOfThree();
        oddsWhateverTheWind();
        oddsRefused();
        whoAsBits();
        whoByTheWind();
        whoTellsAsLandsDoes();
        whoRefused();
        Checks.end("ForeseenBoundariesTest");
    }

    private static void same(String what, long got, long want) {
        Checks.same(what, got, want);
    }

    /** Batter, and the row of tosses: with nothing behind it. */
    private static void plan(String what, PancakePort p, int batter, int... row) {
        same(what + ": batter", p.all(0), batter);
        same(what + ": tosses", p.all(1), row.length);
        for (int place = 0; place < 6; place++) {
            same(what + ": place " + place, p.all(10 + place), place < row.length ? row[place] : Checks.NONE);
        }
    }

    private static void noPlan(String what, PancakePort p) {
        for (int asked : new int[] {0, 1, 10, 11, 12, 13, 14, 15}) {
            same(what + ": all(" + asked + ")", p.all(asked), Checks.NONE);
        }
    }

    // "ALL for those who are not COVERED", of whom there are none.
    private static void allOfNobody() {
        PancakePort p = Checks.portOf("00,01;h22");
        p.toss(0, 0);
        plan("17: all are covered", p, 0);
        p.train(0, 4, 4);
        plan("17: all are covered, though they could not be", p, 0);
    }

    // "10 to 15 the so-manieth (NONE: there are not so many)".
    private static void allOfOneToSix() {
        plan("17: one", Checks.portOf("22;h22"), 1, 13);
        plan("17: two", Checks.portOf("22,55;h22"), 2, 13, 34);
        plan("17: three", Checks.portOf("22,55,05;h22"), 3, 4, 13, 34);
        plan("17: four", Checks.portOf("22,55,05,50;h22"), 4, 4, 13, 30, 34);
        plan("17: five", Checks.portOf("22,55,05,50,00;h22"), 5, 0, 4, 13, 30, 34);
        plan("17: six", Checks.portOf("22,55,05,50,00,40;h22"), 6, 0, 4, 13, 24, 30, 34);
        plan("17: six by one", Checks.portOf("00,01,02,10,11,12;w22"), 5, 1);
        plan("17: six by two", Checks.portOf("00,01,02,10,11,12;h22"), 2, 1, 7);
        plan("17: six corners by wide ones", Checks.portOf("00,03,05,50,53,55;w22"), 20, 0, 4, 24, 28);
    }

    private static void allOfThoseWhoAreNotCovered() {
        PancakePort p = Checks.portOf("22,55,05,50,00,40;h22");
        p.toss(0, 0);
        plan("17: the fifth is covered", p, 5, 4, 13, 24, 30, 34);
        p.toss(0, 14);
        plan("17: the first is", p, 4, 4, 24, 30, 34);
        p.move(0, 1);
        plan("17: he moved to where the fifth lies, who is covered", p, 5, 0, 4, 24, 30, 34);
        p.morning();
        plan("17: in the morning nobody is", p, 5, 0, 4, 24, 30, 34);
        p.move(0, 14);
        plan("17: all six again", p, 6, 0, 4, 13, 24, 30, 34);
    }

    // "(whether there is BATTER enough does not matter)".
    private static void allWhateverBatterThereIs() {
        PancakePort p = Checks.portOf("00,03,05,50,53,55;w22");
        plan("17: with 60", p, 20, 0, 4, 24, 28);
        for (int time = 0; time < 12; time++) {
            p.toss(0, 14);
        }
        p.morning();
        same("17: there is none", p.count(3), 0);
        plan("17: with none", p, 20, 0, 4, 24, 28);
        same("17: nothing is thrown by it", p.count(8), 12);
        same("17: nobody is covered by it", p.count(2), 0);
    }

    // "with least BATTER together": though they are more.
    private static void allWithLeastBatter() {
        plan("17: two thrifty ones for 2, not a plain one for 3", Checks.portOf("00,10;t22,h22"), 2, 36, 42);
        plan("17: two lacy ones for 4, not a wide one for 5", Checks.portOf("00,02,20,22,01,10;w22,l22"), 4, 36 + 1, 36 + 7);
        plan("17: a mayor's for 4, not a wide one for 5", Checks.portOf("00,01,02,10,12,20;w22,m22"), 4, 36 + 7);
        plan("17: a wide one for 5, as a mayor's has not where it lands", Checks.portOf("00,01,02,10,11,12;w22,m22"), 5, 1);
        plan("17: a lacy one for 2, not a plain one", Checks.portOf("33;t22,l22"), 2, 36 + 14);
    }

    // "of these the fewest".
    private static void allOfTheseTheFewest() {
        plan("17: one plain one for 3, not three thrifty ones", Checks.portOf("00,10,20;h22,t22"), 3, 36 + 6);
        plan("17: one lacy one for 2, not two thrifty ones", Checks.portOf("00,11;h22,l22"), 2, 36);
        plan("17: three thrifty ones for 3, as a plain one has not all", Checks.portOf("00,10,20,21;h22,t22"), 3, 0, 6, 12);
        plan("17: one wide one for 5, not a plain and a lacy one", Checks.portOf("01,10,12,21,00,02;l22,t22,w22"), 5, 72 + 7);
    }

    // "of like ones the first by numbers (each row with the least TOSS ahead)".
    private static void allFirstByNumbers() {
        plan("17: the first tosser of like ones", Checks.portOf("33;h22,h22,h22,h22"), 1, 20);
        plan("17: whichever sleeper is told first", Checks.portOf("55,00;h22"), 2, 0, 34);
        plan("17: the least ahead, not the one for the first sleeper", Checks.portOf("55,00;h44,h00"), 2, 20, 36 + 14);
        // 0 and 3 or 1 and 3, 4, 5 have all: 0 is ahead.
        plan("17: the row with the least first toss", Checks.portOf("00,02,04;h22"), 2, 0, 3);
        plan("17: and behind it with the least next", Checks.portOf("00,03,05;h22"), 2, 0, 4);
        plan("17: three in a row of six", Checks.portOf("00,01,02,03,04,05;h22"), 2, 1, 4);
        plan("17: three tosses, the middle one as small as can be", Checks.portOf("00,05,13,20,55;h22"), 5, 0, 4, 8, 12, 34);
    }

    // "told as 36 times the TOSSER, and the CELL".
    private static void allAtTheFirstAndLastToss() {
        plan("17: the first toss of all", Checks.portOf("00;t22,t22"), 3, 0);
        plan("17: the last toss of all", Checks.portOf("54;t00,t00,t00,h20"), 1, 143);
        plan("17: the last cell of the first", Checks.portOf("54;h20,t00"), 1, 35);
        plan("17: the first cell of the last", Checks.portOf("23;t00,t00,t00,h44"), 1, 108);
    }

    // A toss lands by the wind.
    private static void allByTheWind() {
        PancakePort p = Checks.portOf("00,55;h22");
        plan("17: without wind", p, 2, 0, 34);
        p.wind(1);
        plan("17: eastward", p, 2, 0, 33);
        same("18: eastward", p.nights(), 30);
        p.wind(-1);
        plan("17: westward", p, 2, 1, 35);
        p.train(0, 2, 1);
        noPlan("17: westward by the wrist, too, nothing lands in column 4", p);
        same("18: nor in any night", p.nights(), Checks.NONE);
        p.wind(1);
        plan("17: the wind against the wrist", p, 2, 0, 34);
    }

    // "none"; "NONE: it cannot be".
    private static void allThatCannotBe() {
        PancakePort p = Checks.portOf("00,55;h22");
        p.train(0, 0, 0);
        noPlan("17: one of two can't be covered", p);
        p.train(0, 2, 2);
        p.toss(0, 35);
        p.train(0, 0, 0);
        plan("17: he is covered, the other can be", p, 1, 14);
        p.morning();
        noPlan("17: in the morning he isn't", p);
        p.move(1, 5);
        noPlan("17: nor where he moved, as column 4 is the last", p);
        p.move(1, 4);
        plan("17: he moved to where he can be", p, 2, 14, 17);
        // Only from a row below the square would a toss land in row 4, only from one above it in row 1.
        noPlan("17: no cell behind the last", Checks.portOf("40;h02"));
        noPlan("17: no cell behind the last, of any tosser", Checks.portOf("40;h02,h02,h02,h02"));
        noPlan("17: no cell ahead of the first", Checks.portOf("15;h42,h42"));
        same("18: nor in any night", Checks.portOf("40;h02").nights(), Checks.NONE);
        PancakePort m = Checks.portOf("50;m44");
        noPlan("17: a mayor who lands in columns 2 to 5 covers none in column 0", m);
        PancakePort six = Checks.portOf("00,01,02,10,11,55;w00,w01,w10,w00");
        noPlan("17: five of six can be", six);
        same("18: five of six", six.nights(), Checks.NONE);
    }

    private static void allRefused() {
        PancakePort none = new PancakePort();
        PancakePort p = Checks.portOf("00,55;h22");
        for (int what = -2; what <= 18; what++) {
            int asked = what;
            boolean may = what == 0 || what == 1 || what >= 10 && what <= 15;
            Checks.refused("17: no port, all(" + what + ")", none, () -> none.all(asked), may ? Checks.STATE : Checks.OUTSIDE);
            if (!may) {
                Checks.refused("17: all(" + what + ")", p, () -> p.all(asked), Checks.OUTSIDE);
            }
        }
        for (int wrong : new int[] {LOW, HIGH, -10, 100}) {
            Checks.refused("17: all(" + wrong + ")", p, () -> p.all(wrong), Checks.OUTSIDE);
            Checks.refused("17: OUTSIDE is told ahead of STATE", none, () -> none.all(wrong), Checks.OUTSIDE);
        }
    }

    // "how often ALL for all SLEEPERS ... can be thrown with the BATTER that there is".
    private static void nightsWithJustEnough() {
        // The thrifty one reaches neither of them: he only takes batter away.
        PancakePort p = Checks.portOf("00,55;w22,h04");
        same("17: it takes 10", p.all(0), 10);
        p.stir(39);
        for (int batter = 99; batter > 0; batter--) {
            same("18: with " + batter, p.nights(), batter / 10);
            p.toss(1, 0);
        }
        same("18: with none", p.nights(), 0);
        same("18: nothing is thrown by it", p.count(8), 99);
        PancakePort one = Checks.portOf("00;h22");
        one.stir(39);
        same("18: most nights of all", one.nights(), 99);
        for (int batter = 98; batter >= 0; batter--) {
            one.toss(0, 0);
            same("18: one for each, with " + batter, one.nights(), batter);
        }
        Checks.refused("18: no port", new PancakePort(), new PancakePort()::nights, Checks.STATE);
    }

    // "for all SLEEPERS (COVERED or not)".
    private static void nightsCoveredOrNot() {
        PancakePort p = Checks.portOf("22,55,05,50,00,40;h22");
        same("18: by six tosses", p.nights(), 10);
        for (int cell : new int[] {14, 35, 5, 30, 0, 24}) {
            p.toss(0, cell);
        }
        plan("17: all are covered", p, 0);
        same("18: with 54", p.nights(), 9);
        p.morning();
        same("18: the morning takes nothing", p.nights(), 9);
        p.stir(5);
        same("18: with 59", p.nights(), 9);
        p.stir(1);
        same("18: with 60", p.nights(), 10);
    }

    // "(none: it cannot be)".
    private static void nightsThatCannotBe() {
        PancakePort p = Checks.portOf("00,55;h22");
        p.toss(0, 0);
        p.toss(0, 35);
        p.train(0, 0, 0);
        plan("17: all are covered", p, 0);
        same("18: but it cannot be once more", p.nights(), Checks.NONE);
        p.train(0, 2, 2);
        same("18: now it can", p.nights(), 29);
        while (p.count(3) > 0) {
            p.toss(0, 14);
        }
        same("18: it can be, but not with no batter", p.nights(), 0);
        p.train(0, 0, 0);
        same("18: it cannot be, and there is no batter", p.nights(), Checks.NONE);
    }

    // "if the WIND is each of -1, 0, 1 as likely: ... told as how many of 3".
    private static void oddsOfThree() {
        PancakePort p = Checks.portOf("20,21,22,23,24,25;h22,w22,t22,m22");
        int[][] byThrifty = {{2, 2, 1, 0, 0, 0}, {2, 3, 2, 1, 0, 0}, {1, 2, 3, 2, 1, 0},
            {0, 1, 2, 3, 2, 1}, {0, 0, 1, 2, 3, 2}, {0, 0, 0, 1, 2, 2}};
        for (int column = 0; column < 6; column++) {
            for (int sleeper = 0; sleeper < 6; sleeper++) {
                int due = byThrifty[column][sleeper];
                same("19: thrifty, column " + column + ", sleeper " + sleeper, p.odds(sleeper, 0, 12 + column), due);
                same("19: wide, from the row above", p.odds(sleeper, 1, 6 + column), due);
                same("19: wide, from the row below", p.odds(sleeper, 1, 18 + column), due);
                same("19: none, two rows above", p.odds(sleeper, 1, column), 0);
                same("19: none, two rows below", p.odds(sleeper, 1, 24 + column), 0);
            }
        }
        same("19: a plain one from above", p.odds(2, 2, 8), 1);
        same("19: a plain one from above, beside", p.odds(2, 2, 7), 1);
        same("19: a plain one from above, two beside", p.odds(2, 2, 6), 0);
        same("19: a mayor's, but where it lands itself", p.odds(2, 3, 14), 2);
        same("19: a mayor's, beside", p.odds(2, 3, 13), 1);
        same("19: a mayor's, two beside", p.odds(2, 3, 12), 1);
    }

    private static void oddsWhateverTheWind() {
        PancakePort p = Checks.portOf("22,35;h22,h24");
        for (int wind = -1; wind <= 1; wind++) {
            p.wind(wind);
            same("19: wind " + wind, p.odds(0, 0, 13), 2);
            same("19: by the wrist, wind " + wind, p.odds(0, 1, 13), 2);
            same("19: by the wrist at the edge, wind " + wind, p.odds(1, 1, 20), 2);
            same("19: the wind stays", p.count(4), wind + 1);
        }
        p.wind(0);
        p.toss(0, 14);
        same("19: whether he is covered or not", p.odds(0, 0, 14), 3);
        while (p.count(3) > 0) {
            p.toss(0, 0);
        }
        same("19: without batter", p.odds(0, 0, 14), 3);
        p.train(0, 4, 2);
        same("19: by the wrist as it is", p.odds(0, 0, 14), 0);
        same("19: two rows southward", p.odds(0, 0, 2), 3);
    }

    // "UNKNOWN: sleeper, tosser, cell".
    private static void oddsRefused() {
        PancakePort p = Checks.portOf("00,01,02,10,11,12;h22,h22,h22,h22");
        for (int wrong : new int[] {-1, 6, LOW, HIGH}) {
            Checks.refused("19: sleeper " + wrong, p, () -> p.odds(wrong, 3, 35), Checks.UNKNOWN);
        }
        for (int wrong : new int[] {-1, 4, LOW, HIGH}) {
            Checks.refused("19: tosser " + wrong, p, () -> p.odds(5, wrong, 35), Checks.UNKNOWN);
        }
        for (int wrong : new int[] {-1, 36, LOW, HIGH}) {
            Checks.refused("19: cell " + wrong, p, () -> p.odds(5, 3, wrong), Checks.UNKNOWN);
            same("19: all three", p.odds(wrong, wrong, wrong), Checks.UNKNOWN);
        }
        same("19: the last ones", p.odds(5, 3, 35), 0);
        PancakePort one = Checks.portOf("00;h22");
        same("19: of one, the second sleeper", one.odds(1, 0, 0), Checks.UNKNOWN);
        same("19: of one, the second tosser", one.odds(0, 1, 0), Checks.UNKNOWN);
        same("19: without a port", new PancakePort().odds(0, 0, 0), Checks.UNKNOWN);
    }

    // "WHO for a CELL: which TOSSERS can have a TOSS LAND there now, aimed at some CELL, as bits".
    private static void whoAsBits() {
        PancakePort p = Checks.portOf("33;t22,l02,w42,m24");
        same("20: the first alone at the southwest", p.who(30), 1 + 4);
        same("20: the northwest", p.who(0), 1 + 2);
        same("20: the northeast", p.who(5), 1 + 2 + 8);
        same("20: the southeast", p.who(35), 1 + 4 + 8);
        same("20: row 1, column 1", p.who(7), 1 + 2);
        same("20: row 2, column 1", p.who(13), 1 + 2 + 4);
        same("20: row 2, column 2: all four", p.who(14), 15);
        same("20: row 3, column 5: all four", p.who(23), 15);
        same("20: row 4, column 2", p.who(26), 1 + 4 + 8);
        PancakePort far = Checks.portOf("33;t00");
        same("20: none", far.who(35), 0);
        same("20: the last that can be", far.who(21), 1);
        same("20: one farther", far.who(22), 0);
        same("20: one row farther", far.who(27), 0);
        while (far.count(3) > 0) {
            far.toss(0, 0);
        }
        same("20: without batter", far.who(21), 1);
    }

    private static void whoByTheWind() {
        PancakePort p = Checks.portOf("33;t22,t24,t20");
        int[] none = {1 + 4, 1 + 4, 7, 7, 1 + 2, 1 + 2};
        int[] east = {4, 1 + 4, 1 + 4, 7, 7, 1 + 2};
        int[] west = {1 + 4, 7, 7, 1 + 2, 1 + 2, 2};
        for (int column = 0; column < 6; column++) {
            p.wind(0);
            same("20: no wind, column " + column, p.who(column), none[column]);
            p.wind(1);
            same("20: eastward, column " + column, p.who(30 + column), east[column]);
            p.wind(-1);
            same("20: westward, column " + column, p.who(18 + column), west[column]);
        }
    }

    private static void whoTellsAsLandsDoes() {
        PancakePort p = Checks.portOf("33;t00,l13,w41,h34");
        for (int wind = -1; wind <= 1; wind++) {
            p.wind(wind);
            int[] due = new int[36];
            for (int toss = 0; toss < 144; toss++) {
                int landed = p.lands(toss / 36, toss % 36);
                if (landed != Checks.NONE) {
                    due[landed] |= 1 << toss / 36;
                }
            }
            for (int cell = 0; cell < 36; cell++) {
                same("20: wind " + wind + ", cell " + cell, p.who(cell), due[cell]);
            }
        }
    }

    // "UNKNOWN: cell (0 to 35; also without a PORT)".
    private static void whoRefused() {
        PancakePort none = new PancakePort();
        PancakePort p = Checks.portOf("33;t22");
        for (int cell = 0; cell < 36; cell++) {
            int asked = cell;
            same("20: cell " + cell, p.who(cell), 1);
            Checks.refused("20: without a port, cell " + cell, none, () -> none.who(asked), Checks.UNKNOWN);
        }
        for (int wrong : new int[] {-1, 36, LOW, HIGH}) {
            Checks.refused("20: cell " + wrong, p, () -> p.who(wrong), Checks.UNKNOWN);
            Checks.refused("20: without a port, cell " + wrong, none, () -> none.who(wrong), Checks.UNKNOWN);
        }
    }
}
