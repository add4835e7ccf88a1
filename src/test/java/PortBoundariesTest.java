/** The edges of what is told of sleepers and tossers, of where a toss lands and whom it covers: promises 6 to 10. */
public final class PortBoundariesTest {
    private static final int LOW = Integer.MIN_VALUE, HIGH = Integer.MAX_VALUE;
    private static final String SIX_AND_FOUR = "00,05,50,55,22,33;t22,l22,w22,m22";

    private PortBoundariesTest() {
    }

    public static void main(String[] args) {
        sleepersByNumber();
        whatOfSleepers();
        breakfastsAndCold();
        lieWhereNobodyElseLies();
        lieOfLikeOnesTheLeast();
        lieByAllTossesAndTheWind();
        lieCountsAsCoversTells();
        tossersByNumber();
        whatOfTossers();
        kindsAndBatter();
        wristsAsTold();
        mostOfLikeOnesTheLeast();
        mostAtTheFirstAndLastCell();
        mostOfNobody();
        thrownByEach();
        kindsAreTaken();
        kindsOutside();
        landsBeyondEachSide();
        landsByWristAndWind();
        tossesByNumber();
        coversInTheSquareOnly();
        coversNobodyBeyondTheSquare();
        coversAsBits();
        Checks.end("PortBoundariesTest");
    }

    private static void same(String what, long got, long want) {
        Checks.same(what, got, want);
    }

    // "SLEEPERS (numbered from 0)"; "UNKNOWN (a number names nothing)".
    private static void sleepersByNumber() {
        PancakePort one = Checks.portOf("43;t22");
        PancakePort six = Checks.portOf(SIX_AND_FOUR);
        for (int what = 0; what <= 4; what++) {
            int asked = what;
            for (int wrong : new int[] {-1, 1, 5, LOW, HIGH}) {
                Checks.refused("6: of one, sleeper " + wrong, one, () -> one.sleeper(wrong, asked), Checks.UNKNOWN);
            }
            for (int wrong : new int[] {-1, 6, 7, LOW, HIGH}) {
                Checks.refused("6: of six, sleeper " + wrong, six, () -> six.sleeper(wrong, asked), Checks.UNKNOWN);
            }
            same("6: without a port", new PancakePort().sleeper(0, what), Checks.UNKNOWN);
        }
        same("6: the only one", one.sleeper(0, 0), 27);
        same("6: the first", six.sleeper(0, 0), 0);
        same("6: the last", six.sleeper(5, 0), 21);
    }

    private static void whatOfSleepers() {
        PancakePort p = Checks.portOf(SIX_AND_FOUR);
        for (int sleeper = 0; sleeper < 6; sleeper++) {
            int asked = sleeper;
            for (int wrong : new int[] {-1, 5, 6, LOW, HIGH}) {
                Checks.refused("6: what " + wrong, p, () -> p.sleeper(asked, wrong), Checks.OUTSIDE);
            }
        }
        for (int wrong : new int[] {-1, 5, LOW, HIGH}) {
            same("6: UNKNOWN is told first", p.sleeper(6, wrong), Checks.UNKNOWN);
            same("6: UNKNOWN is told first, without a port", new PancakePort().sleeper(0, wrong), Checks.UNKNOWN);
        }
    }

    // "In the MORNING each one who is COVERED had a BREAKFAST, each other one was COLD once more".
    private static void breakfastsAndCold() {
        PancakePort p = Checks.portOf("00,05,50,55,22,33;h22");
        int[] nights = {0, 5, 30, 35, 14, 21};
        for (int night = 0; night < 6; night++) {
            p.toss(0, nights[night]);
            same("6: he alone is covered", p.count(2), 1);
            same("13: one had a breakfast", p.morning(), 1);
        }
        for (int sleeper = 0; sleeper < 6; sleeper++) {
            same("6: nobody is covered any more", p.sleeper(sleeper, 1), 0);
            same("6: one breakfast for each", p.sleeper(sleeper, 2), 1);
            same("6: cold five times", p.sleeper(sleeper, 3), 5);
        }
        same("26: breakfasts of all", p.count(6), 6);
        same("26: cold of all", p.count(7), 30);
        for (int cell : nights) {
            p.toss(0, cell);
        }
        same("13: all had one", p.morning(), 6);
        for (int sleeper = 0; sleeper < 6; sleeper++) {
            same("6: two for each", p.sleeper(sleeper, 2), 2);
            same("6: cold no more", p.sleeper(sleeper, 3), 5);
        }
    }

    // "LIE for a SLEEPER: in which CELL where nobody else lies".
    private static void lieWhereNobodyElseLies() {
        // A thrifty one's tosses: three reach each cell of columns 1 to 4, two of columns 0 and 5.
        PancakePort p = Checks.portOf("01,02,03,04,11,12;h22");
        same("6: LIE, his own cell is free for him", p.sleeper(0, 4), 1);
        same("6: LIE, the second's own", p.sleeper(1, 4), 2);
        same("6: LIE, the third's own", p.sleeper(2, 4), 3);
        same("6: LIE, the fourth's own", p.sleeper(3, 4), 4);
        same("6: LIE, the fifth's own", p.sleeper(4, 4), 7);
        same("6: LIE, the sixth's own", p.sleeper(5, 4), 8);
        p.move(5, 35);
        same("6: LIE, where the sixth lay", p.sleeper(5, 4), 8);
        p.move(0, 8);
        same("6: LIE, where the first lay", p.sleeper(5, 4), 1);
        same("6: LIE doesn't move him", p.sleeper(5, 0), 35);
        // Lands in columns 0 to 2 of rows 0 to 3: column 1 has three tosses, and is taken; columns 0 and 2 have two.
        PancakePort q = Checks.portOf("01,11,21,31,44;h00");
        q.wind(-1);
        same("6: LIE, the first cell of all", q.sleeper(4, 4), 0);
        same("6: LIE, one who lies in a better one", q.sleeper(3, 4), 19);
        q.move(4, 0);
        same("6: LIE, his own, the first cell of all", q.sleeper(4, 4), 0);
    }

    // "of like ones the least".
    private static void lieOfLikeOnesTheLeast() {
        same("6: LIE for a plain one: five tosses at 7", Checks.portOf("55;t22").sleeper(0, 4), 7);
        same("6: LIE for a lacy one", Checks.portOf("55;l22").sleeper(0, 4), 7);
        same("6: LIE for a wide one", Checks.portOf("55;w22").sleeper(0, 4), 7);
        same("6: LIE for a mayor", Checks.portOf("55;m22").sleeper(0, 4), 7);
        same("6: LIE for a thrifty one: rows are alike", Checks.portOf("55;h22").sleeper(0, 4), 1);
        same("6: LIE, though he lies in a like one", Checks.portOf("44;h22").sleeper(0, 4), 1);
    }

    // "by most TOSSES (of all TOSSERS, at all CELLS, by the WIND as it is)".
    private static void lieByAllTossesAndTheWind() {
        // Lands in columns 2 to 5, by the wind in 3 to 5 or 1 to 5.
        PancakePort east = Checks.portOf("00;h24");
        same("6: LIE, lands in columns 2 to 5: at 3", east.sleeper(0, 4), 3);
        east.wind(1);
        same("6: LIE, lands in columns 3 to 5: at 4", east.sleeper(0, 4), 4);
        east.wind(-1);
        same("6: LIE, lands in columns 1 to 5: at 2", east.sleeper(0, 4), 2);
        PancakePort west = Checks.portOf("00;h20");
        same("6: LIE, lands in columns 0 to 3: at 1", west.sleeper(0, 4), 1);
        west.wind(-1);
        west.train(0, 4, 0);
        same("6: LIE, lands in columns 0 to 2, rows 2 to 5: at 13", west.sleeper(0, 4), 13);
        // The first one reaches row 0 to 3, the other row 2 to 5: both reach row 2 and 3.
        PancakePort two = Checks.portOf("00;h02,h42");
        same("6: LIE, of all tossers: in row 2", two.sleeper(0, 4), 13);
        two.train(1, 2, 4);
        same("6: LIE, of all tossers: column 3 of row 0", two.sleeper(0, 4), 3);
        PancakePort four = Checks.portOf("00;h02,h02,h02,h42");
        same("6: LIE, of four: where all four reach", four.sleeper(0, 4), 13);
        four.toss(0, 12);
        four.toss(3, 0);
        same("6: LIE, whoever is covered", four.sleeper(0, 4), 13);
        while (four.count(3) > 0) {
            four.toss(0, 0);
        }
        same("6: LIE, without batter", four.sleeper(0, 4), 13);
    }

    /** One who lies down in every free cell, and asks there how many tosses would cover him. */
    private static void lieCountsAsCoversTells() {
        String[] texts = {"00,11,22,33,44,55;t22,l13,w40,h24", "14,15,20,21,23,31;m00,w44", "35,34,33,32,31,30;l44",
            "00,01,02,10,11,12;m33,h11,t04", "05,04;w04,m04", "50;t40,l40"};
        for (String text : texts) {
            for (int wind = -1; wind <= 1; wind++) {
                PancakePort p = Checks.portOf(text);
                p.wind(wind);
                for (int sleeper = 0; sleeper < p.count(0); sleeper++) {
                    same("6: LIE of " + sleeper + " in " + text + ", wind " + wind, p.sleeper(sleeper, 4), tryToLie(text, wind, sleeper));
                }
            }
        }
    }

    private static int tryToLie(String text, int wind, int sleeper) {
        PancakePort p = Checks.portOf(text);
        p.wind(wind);
        int best = Checks.NONE;
        int most = -1;
        for (int cell = 0; cell < 36; cell++) {
            if (p.move(sleeper, cell) == Checks.STATE) {
                continue;
            }
            int tosses = 0;
            for (int toss = 0; toss < 36 * p.count(1); toss++) {
                tosses += p.covers(toss / 36, toss % 36) >> sleeper & 1;
            }
            best = tosses > most ? cell : best;
            most = Math.max(most, tosses);
        }
        return best;
    }

    // "TOSSERS (numbered from 0)".
    private static void tossersByNumber() {
        PancakePort one = Checks.portOf("43;t22");
        PancakePort four = Checks.portOf(SIX_AND_FOUR);
        for (int what = 0; what <= 8; what++) {
            int asked = what;
            for (int wrong : new int[] {-1, 1, 3, LOW, HIGH}) {
                Checks.refused("7: of one, tosser " + wrong, one, () -> one.tosser(wrong, asked), Checks.UNKNOWN);
            }
            for (int wrong : new int[] {-1, 4, 5, LOW, HIGH}) {
                Checks.refused("7: of four, tosser " + wrong, four, () -> four.tosser(wrong, asked), Checks.UNKNOWN);
            }
            same("7: without a port", new PancakePort().tosser(0, what), Checks.UNKNOWN);
        }
    }

    private static void whatOfTossers() {
        PancakePort p = Checks.portOf(SIX_AND_FOUR);
        for (int tosser = 0; tosser < 4; tosser++) {
            int asked = tosser;
            for (int wrong : new int[] {-1, 9, 10, LOW, HIGH}) {
                Checks.refused("7: what " + wrong, p, () -> p.tosser(asked, wrong), Checks.OUTSIDE);
            }
        }
        for (int wrong : new int[] {-1, 9, LOW, HIGH}) {
            same("7: UNKNOWN is told first", p.tosser(4, wrong), Checks.UNKNOWN);
            same("7: UNKNOWN is told first, without a port", new PancakePort().tosser(0, wrong), Checks.UNKNOWN);
        }
    }

    // "KINDS are told by the letter: 0 TOSSER "t", 1 LACY "l", 2 WIDE "w", 3 THRIFTY "h", 4 MAYOR "m"";
    // "BATTER for it: plain 3, LACY 2, WIDE 5, THRIFTY 1, MAYOR 4".
    private static void kindsAndBatter() {
        String letters = "tlwhm";
        int[] batter = {3, 2, 5, 1, 4};
        for (int kind = 0; kind < 5; kind++) {
            PancakePort p = Checks.portOf("00;" + letters.charAt(kind) + "22");
            same("7: the kind of " + letters.charAt(kind), p.tosser(0, 0), kind);
            same("7: his batter", p.tosser(0, 3), batter[kind]);
            p.toss(0, 35);
            same("11: is what a toss takes", p.count(3), 60 - batter[kind]);
            same("17: and what all() tells", Checks.portOf("22;" + letters.charAt(kind) + "22").all(0), batter[kind]);
        }
    }

    // "two digits (0 to 4 each), the WRIST: how far it turns southward and eastward, each told as 2 more".
    private static void wristsAsTold() {
        for (int south = 0; south <= 4; south++) {
            for (int east = 0; east <= 4; east++) {
                PancakePort p = Checks.portOf("00;h" + south + east);
                same("7: southward", p.tosser(0, 1), south);
                same("7: eastward", p.tosser(0, 2), east);
                same("9: from the cell 14", p.lands(0, 14), 6 * south + east);
            }
        }
    }

    // "MOST for a TOSSER: at which CELL to aim, so that most who are not COVERED would be: of like ones the least".
    private static void mostOfLikeOnesTheLeast() {
        PancakePort p = Checks.portOf("11,44;w22");
        same("7: MOST, one from 0 on", p.tosser(0, 4), 0);
        same("7: one", p.tosser(0, 5), 1);
        p.toss(0, 0);
        same("7: MOST, the other from 21 on", p.tosser(0, 4), 21);
        PancakePort six = Checks.portOf("00,01,02,10,11,12;w22");
        same("7: MOST covers six", six.tosser(0, 5), 6);
        same("7: MOST covers six at 1 already", six.tosser(0, 4), 1);
        six.wind(1);
        same("7: MOST by the wind", six.tosser(0, 4), 0);
        six.wind(-1);
        same("7: MOST by the other wind", six.tosser(0, 4), 2);
        six.train(0, 4, 2);
        same("7: MOST by the wrist: only row 1 is reached", six.tosser(0, 4), 2);
        same("7: that covers three", six.tosser(0, 5), 3);
        PancakePort m = Checks.portOf("11,12,13;m22");
        same("7: MOST of a mayor, from the row above", m.tosser(0, 4), 2);
        same("7: covers three", m.tosser(0, 5), 3);
    }

    private static void mostAtTheFirstAndLastCell() {
        PancakePort first = Checks.portOf("22;h44");
        same("7: MOST at the first cell of all", first.tosser(0, 4), 0);
        same("7: covers him", first.tosser(0, 5), 1);
        PancakePort last = Checks.portOf("32;h00");
        same("7: MOST at the last row: lands in column 1 of row 3", last.tosser(0, 4), 33);
        last.move(0, 21);
        same("7: MOST at the last cell but one: lands in column 2 of row 3", last.tosser(0, 4), 34);
        PancakePort corner = Checks.portOf("34;h00");
        same("7: MOST at the last cell of all", corner.tosser(0, 4), 35);
        same("7: covers him", corner.tosser(0, 5), 1);
    }

    private static void mostOfNobody() {
        PancakePort p = Checks.portOf("55;h00");
        same("7: MOST, if none can be covered", p.tosser(0, 4), 0);
        same("7: none", p.tosser(0, 5), 0);
        // Only from a row below the square would a toss land in row 4, only from one above it in row 1.
        PancakePort below = Checks.portOf("40,41,42,43,44,45;h02");
        same("7: MOST, none beyond the last cell", below.tosser(0, 4), 0);
        same("7: none beyond it", below.tosser(0, 5), 0);
        PancakePort above = Checks.portOf("10,11,12,13,14,15;h42");
        same("7: MOST, none ahead of the first cell", above.tosser(0, 4), 0);
        same("7: none ahead of it", above.tosser(0, 5), 0);
        PancakePort q = Checks.portOf("55;h22");
        same("7: MOST at the corner", q.tosser(0, 4), 34);
        q.toss(0, 35);
        same("7: MOST, if all are covered", q.tosser(0, 4), 0);
        same("7: none is left", q.tosser(0, 5), 0);
        q.morning();
        same("7: MOST in the morning", q.tosser(0, 4), 34);
        while (q.count(3) > 0) {
            q.toss(0, 0);
        }
        same("7: MOST without batter", q.tosser(0, 4), 34);
        same("7: covers him all the same", q.tosser(0, 5), 1);
    }

    // "8 TOSSES that he threw".
    private static void thrownByEach() {
        PancakePort p = Checks.portOf("00;h22,h22,h22,h44");
        for (int tosser = 0; tosser < 4; tosser++) {
            for (int time = 0; time <= tosser; time++) {
                p.toss(tosser, 35);
            }
        }
        for (int tosser = 0; tosser < 4; tosser++) {
            same("7: thrown by " + tosser, p.tosser(tosser, 8), tosser + 1);
        }
        same("26: by all", p.count(8), 10);
        p.morning();
        same("7: the morning leaves it", p.tosser(3, 8), 4);
        p.toss(3, 36);
        same("7: a refused one isn't thrown", p.tosser(3, 8), 4);
        p.stir(49);
        for (int time = 0; time < 99; time++) {
            p.toss(0, 0);
        }
        same("7: 1 and 99", p.tosser(0, 8), 100);
        p.toss(0, 0);
        same("7: without batter none is thrown", p.tosser(0, 8), 100);
    }

    // "A TOSSER taken as a KIND: its own number, not that of the KIND; NONE: it is none such (the cast fails)";
    // "All are TOSSERS; a MAYOR is WIDE, too".
    private static void kindsAreTaken() {
        String letters = "tlwhm";
        String[] takenAs = {"0", "01", "02", "03", "024"};
        for (int own = 0; own < 5; own++) {
            for (int tosser = 0; tosser < 4; tosser++) {
                StringBuilder text = new StringBuilder("00;");
                for (int each = 0; each < 4; each++) {
                    text.append(each == 0 ? "" : ",").append(each == tosser ? letters.charAt(own) : each % 2 == 0 ? 'm' : 't').append("22");
                }
                PancakePort p = Checks.portOf(text.toString());
                for (int kind = 0; kind < 5; kind++) {
                    boolean is = takenAs[own].indexOf('0' + kind) >= 0;
                    same("8: tosser " + tosser + " of kind " + own + " as " + kind, p.as(tosser, kind), is ? tosser : Checks.NONE);
                }
            }
        }
    }

    private static void kindsOutside() {
        PancakePort p = Checks.portOf("00;t22,m22");
        for (int wrong : new int[] {-1, 5, 't', 'm', LOW, HIGH}) {
            Checks.refused("8: kind " + wrong, p, () -> p.as(1, wrong), Checks.OUTSIDE);
        }
        for (int kind : new int[] {-1, 0, 4, 5, LOW, HIGH}) {
            for (int wrong : new int[] {-1, 2, LOW, HIGH}) {
                Checks.refused("8: tosser " + wrong + " as " + kind, p, () -> p.as(wrong, kind), Checks.UNKNOWN);
            }
            same("8: without a port as " + kind, new PancakePort().as(0, kind), Checks.UNKNOWN);
        }
    }

    // "in none, if that is beyond the square".
    private static void landsBeyondEachSide() {
        PancakePort p = Checks.portOf("00;t12,t32,t21,t23");
        int[][] inside = {{6, 0}, {24, 30}, {1, 0}, {4, 5}};
        int[] outside = {5, 30, 6, 11};
        for (int tosser = 0; tosser < 4; tosser++) {
            same("9: to the last row or column, by " + tosser, p.lands(tosser, inside[tosser][0]), inside[tosser][1]);
            same("9: one beyond it, by " + tosser, p.lands(tosser, outside[tosser]), Checks.NONE);
        }
        // A row's end is no way to the next row.
        PancakePort east = Checks.portOf("00;t24");
        same("9: not to the next row", east.lands(0, 10), Checks.NONE);
        PancakePort west = Checks.portOf("00;t20");
        same("9: not to the row ahead", west.lands(0, 7), Checks.NONE);
        PancakePort corner = Checks.portOf("00;t11,t33,t13,t31");
        same("9: beyond two sides", corner.lands(0, 0), Checks.NONE);
        same("9: beyond two sides, southeast", corner.lands(1, 35), Checks.NONE);
        same("9: beyond two sides, northeast", corner.lands(2, 5), Checks.NONE);
        same("9: beyond two sides, southwest", corner.lands(3, 30), Checks.NONE);
        same("9: to the corner", corner.lands(0, 7), 0);
        same("9: to the corner, southeast", corner.lands(1, 28), 35);
        same("9: to the corner, northeast", corner.lands(2, 10), 5);
        same("9: to the corner, southwest", corner.lands(3, 25), 30);
    }

    // "as much as the WRIST turns, and by the WIND (-1 to 1) eastward besides".
    private static void landsByWristAndWind() {
        for (int south = 0; south <= 4; south++) {
            for (int east = 0; east <= 4; east++) {
                for (int wind = -1; wind <= 1; wind++) {
                    PancakePort p = Checks.portOf("00;h22");
                    p.train(0, south, east);
                    p.wind(wind);
                    for (int cell = 0; cell < 36; cell++) {
                        int row = cell / 6 + south - 2;
                        int column = cell % 6 + east - 2 + wind;
                        boolean in = Math.min(row, column) >= 0 && Math.max(row, column) <= 5;
                        same("9: wrist " + south + east + ", wind " + wind + ", at " + cell, p.lands(0, cell), in ? 6 * row + column : -1);
                    }
                }
            }
        }
        PancakePort p = Checks.portOf("00;h24");
        p.wind(1);
        same("9: three columns eastward", p.lands(0, 2), 5);
        same("9: three columns eastward, beyond", p.lands(0, 3), Checks.NONE);
        p.train(0, 2, 0);
        p.wind(-1);
        same("9: three columns westward", p.lands(0, 3), 0);
        same("9: three columns westward, beyond", p.lands(0, 2), Checks.NONE);
    }

    // "UNKNOWN: tosser, cell (0 to 35; also without a PORT)".
    private static void tossesByNumber() {
        PancakePort p = Checks.portOf(SIX_AND_FOUR);
        PancakePort none = new PancakePort();
        for (int wrong : new int[] {-1, 36, 37, 143, LOW, HIGH}) {
            Checks.refused("9: cell " + wrong, p, () -> p.lands(3, wrong), Checks.UNKNOWN);
            Checks.refused("10: cell " + wrong, p, () -> p.covers(3, wrong), Checks.UNKNOWN);
        }
        for (int wrong : new int[] {-1, 4, 36, LOW, HIGH}) {
            Checks.refused("9: tosser " + wrong, p, () -> p.lands(wrong, 35), Checks.UNKNOWN);
            Checks.refused("10: tosser " + wrong, p, () -> p.covers(wrong, 35), Checks.UNKNOWN);
            Checks.refused("9: both " + wrong, p, () -> p.lands(wrong, 36), Checks.UNKNOWN);
            Checks.refused("10: both " + wrong, p, () -> p.covers(wrong, 36), Checks.UNKNOWN);
        }
        for (int cell = -1; cell <= 36; cell++) {
            same("9: without a port at " + cell, none.lands(0, cell), Checks.UNKNOWN);
            same("10: without a port at " + cell, none.covers(0, cell), Checks.UNKNOWN);
        }
        same("9: the first toss of all", p.lands(0, 0), 0);
        same("9: the last toss of all", p.lands(3, 35), 35);
        same("10: the last toss of all: a mayor leaves the cell itself", p.covers(3, 35), 0);
    }

    // "What it covers, around where it LANDS, as far as that is in the square".
    private static void coversInTheSquareOnly() {
        coversCells("t", 0, "0 1 6");
        coversCells("t", 5, "4 5 11");
        coversCells("t", 30, "24 30 31");
        coversCells("t", 35, "29 34 35");
        coversCells("t", 14, "8 13 14 15 20");
        coversCells("t", 17, "11 16 17 23");
        coversCells("l", 0, "0 7");
        coversCells("l", 5, "5 10");
        coversCells("l", 30, "25 30");
        coversCells("l", 35, "28 35");
        coversCells("l", 14, "7 9 14 19 21");
        coversCells("l", 12, "7 12 19");
        coversCells("w", 0, "0 1 6 7");
        coversCells("w", 5, "4 5 10 11");
        coversCells("w", 30, "24 25 30 31");
        coversCells("w", 35, "28 29 34 35");
        coversCells("w", 14, "7 8 9 13 14 15 19 20 21");
        coversCells("w", 33, "26 27 28 32 33 34");
        coversCells("h", 0, "0 1");
        coversCells("h", 5, "4 5");
        coversCells("h", 30, "30 31");
        coversCells("h", 35, "34 35");
        coversCells("h", 14, "13 14 15");
        coversCells("h", 18, "18 19");
        coversCells("m", 0, "1 6 7");
        coversCells("m", 5, "4 10 11");
        coversCells("m", 30, "24 25 31");
        coversCells("m", 35, "28 29 34");
        coversCells("m", 14, "7 8 9 13 15 19 20 21");
        coversCells("m", 2, "1 3 7 8 9");
    }

    private static void coversCells(String letter, int landed, String cells) {
        PancakePort p = Checks.portOf("22;" + letter + "22");
        String due = " " + cells + " ";
        for (int cell = 0; cell < 36; cell++) {
            p.move(0, cell);
            same("10: " + letter + " landed in " + landed + " covers " + cell, p.covers(0, landed), due.contains(" " + cell + " ") ? 1 : 0);
        }
    }

    // "in none, if that is beyond the square (then it covers nobody)".
    private static void coversNobodyBeyondTheSquare() {
        PancakePort p = Checks.portOf("05,15,25,35,45,55;w23");
        for (int row = 0; row < 6; row++) {
            same("10: beyond the east", p.covers(0, 6 * row + 5), 0);
            same("10: in the last column", p.covers(0, 6 * row + 4) > 0 ? 1 : 0, 1);
        }
        same("11: thrown beyond the square", p.toss(0, 17), 0);
        same("11: nobody is covered", p.count(2), 0);
        PancakePort q = Checks.portOf("00,10,20,30,40,50;w21");
        same("10: beyond the west", q.covers(0, 12), 0);
        same("10: in the first column", q.covers(0, 13), 2 + 4 + 8);
        PancakePort n = Checks.portOf("00,01,02,03,04,05;w12");
        same("10: beyond the north", n.covers(0, 2), 0);
        same("10: in the first row", n.covers(0, 8), 2 + 4 + 8);
        PancakePort s = Checks.portOf("50,51,52,53,54,55;w32");
        same("10: beyond the south", s.covers(0, 32), 0);
        same("10: in the last row", s.covers(0, 26), 2 + 4 + 8);
    }

    // "Which SLEEPERS a TOSS covers, COVERED or not, as bits".
    private static void coversAsBits() {
        PancakePort p = Checks.portOf("00,01,02,10,11,12;w22,t22,l22,h22");
        same("10: all six", p.covers(0, 7), 63);
        same("10: all six from the row above", p.covers(0, 1), 63);
        same("10: four", p.covers(0, 0), 1 + 2 + 8 + 16);
        same("10: the last one", p.covers(3, 9), 32);
        same("10: a plain one", p.covers(1, 7), 2 + 8 + 16 + 32);
        same("10: a lacy one", p.covers(2, 7), 1 + 4 + 16);
        same("10: none", p.covers(0, 35), 0);
        p.toss(0, 7);
        same("10: though they are covered", p.covers(0, 7), 63);
        same("10: it isn't thrown", p.count(8), 1);
        while (p.count(3) > 0) {
            p.toss(3, 35);
        }
        same("10: without batter", p.covers(0, 7), 63);
    }
}
