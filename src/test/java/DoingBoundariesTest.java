/** The edges of what is done: a toss, the wind, the morning, who moves, trains and stirs: promises 11 to 16. */
public final class DoingBoundariesTest {
    private static final int LOW = Integer.MIN_VALUE, HIGH = Integer.MAX_VALUE;

    private DoingBoundariesTest() {
    }

    public static void main(String[] args) {
        tossCoversThoseWhoAreNot();
        tossTakesItsBatter();
        tossNeedsBatterEnough();
        tossByNumber();
        tossesUpTo999();
        windUpToOne();
        windStays();
        morningsOfAllAndNone();
        morningsUpTo999();
        moveAnywhere();
        moveUncovers();
        moveRefused();
        trainAnyWrist();
        trainRefused();
        stirUpTo60();
        stirUpTo99();
        stirRefused();
        Checks.end("DoingBoundariesTest");
    }

    private static void same(String what, long got, long want) {
        Checks.same(what, got, want);
    }

    private static void covered(String what, PancakePort p, String due) {
        StringBuilder got = new StringBuilder();
        for (int sleeper = 0; sleeper < p.count(0); sleeper++) {
            got.append(p.sleeper(sleeper, 1));
        }
        same(what + ": covered are " + got + ", due is " + due, got.toString().equals(due) ? 1 : 0, 1);
        same(what + ": how many", p.count(2), due.chars().filter(c -> c == '1').count());
    }

    // "how many were not COVERED and are now"; "all SLEEPERS who lie in what it covers are COVERED then".
    private static void tossCoversThoseWhoAreNot() {
        PancakePort p = Checks.portOf("00,01,02,10,11,12;w22,m22,h22");
        same("11: all six at once", p.toss(0, 1), 6);
        covered("11: all", p, "111111");
        same("11: nobody more", p.toss(0, 1), 0);
        covered("11: all stay so", p, "111111");
        p.morning();
        covered("11: nobody", p, "000000");
        same("11: two", p.toss(2, 0), 2);
        covered("11: two", p, "110000");
        same("11: of three, one more", p.toss(2, 1), 1);
        covered("11: three", p, "111000");
        same("11: a mayor's covers not where it lands", p.toss(1, 10), 0);
        same("11: of five, two more", p.toss(1, 7), 2);
        covered("11: all but 4", p, "111101");
        same("11: the last one", p.toss(2, 9), 0);
        same("11: the last one, indeed", p.toss(2, 8), 1);
        covered("11: all again", p, "111111");
        p.wind(1);
        p.morning();
        same("11: by the wind, in column 1 of row 0", p.toss(2, 0), 3);
        covered("11: by the wind", p, "111000");
        p.wind(-1);
        same("11: by the other wind, beyond the west", p.toss(2, 6), 0);
        same("11: by the other wind", p.toss(2, 7), 2);
        covered("11: by the other wind", p, "111110");
    }

    // "A TOSS that is thrown takes its BATTER": also one that lands in none, or covers nobody more.
    private static void tossTakesItsBatter() {
        PancakePort p = Checks.portOf("33;t00,l22,w22,m22");
        same("11: lands in none", p.toss(0, 0), 0);
        same("11: takes 3", p.count(3), 57);
        same("11: is thrown", p.count(8), 1);
        same("11: by him", p.tosser(0, 8), 1);
        same("11: covers nobody", p.toss(1, 0), 0);
        same("11: takes 2", p.count(3), 55);
        same("11: covers one", p.toss(2, 21), 1);
        same("11: takes 5", p.count(3), 50);
        same("11: covers him again", p.toss(2, 21), 0);
        same("11: takes 5 again", p.count(3), 45);
        same("11: a mayor's", p.toss(3, 21), 0);
        same("11: takes 4", p.count(3), 41);
        same("11: five are thrown", p.count(8), 5);
        Checks.write(p, "33;h22");
        p.port();
        same("11: a thrifty one", p.toss(0, 21), 1);
        same("11: takes 1", p.count(3), 59);
    }

    // "STATE: there is not BATTER enough".
    private static void tossNeedsBatterEnough() {
        String letters = "tlwhm";
        int[] batter = {3, 2, 5, 1, 4};
        for (int kind = 0; kind < 5; kind++) {
            PancakePort p = Checks.portOf("33;h22," + letters.charAt(kind) + "22");
            while (p.count(3) > batter[kind]) {
                p.toss(0, 0);
            }
            same("11: just enough for " + letters.charAt(kind), p.toss(1, 20), kind == 1 ? 0 : 1);
            same("11: nothing is left", p.count(3), 0);
            Checks.refused("11: nothing for " + letters.charAt(kind), p, () -> p.toss(1, 20), Checks.STATE);
            if (batter[kind] > 1) {
                same("11: stirred", p.stir(batter[kind] - 1), batter[kind] - 1);
                Checks.refused("11: one too little for " + letters.charAt(kind), p, () -> p.toss(1, 20), Checks.STATE);
                same("11: the other can", p.toss(0, 35), 0);
            }
        }
    }

    // "UNKNOWN: tosser, cell".
    private static void tossByNumber() {
        PancakePort p = Checks.portOf("00,55;h22,h22,h22,h22");
        for (int wrong : new int[] {-1, 36, 143, LOW, HIGH}) {
            Checks.refused("11: cell " + wrong, p, () -> p.toss(3, wrong), Checks.UNKNOWN);
            same("11: without a port", new PancakePort().toss(0, wrong), Checks.UNKNOWN);
        }
        for (int wrong : new int[] {-1, 4, LOW, HIGH}) {
            Checks.refused("11: tosser " + wrong, p, () -> p.toss(wrong, 35), Checks.UNKNOWN);
        }
        same("11: the first toss of all", p.toss(0, 0), 1);
        same("11: the last toss of all", p.toss(3, 35), 1);
        same("11: without a port", new PancakePort().toss(0, 0), Checks.UNKNOWN);
        while (p.count(3) > 0) {
            p.toss(1, 3);
        }
        Checks.refused("11: UNKNOWN is told ahead of STATE, cell", p, () -> p.toss(0, 36), Checks.UNKNOWN);
        Checks.refused("11: UNKNOWN is told ahead of STATE, tosser", p, () -> p.toss(4, 0), Checks.UNKNOWN);
    }

    // "FULL: 999 were thrown": by all. It lies beyond the 512 calls of an object; the class keeps to it all the same.
    private static void tossesUpTo999() {
        PancakePort p = Checks.portOf("00;h22,h22,w22");
        for (int time = 0; time < 998; time++) {
            p.toss(time % 2, 0);
            p.stir(1);
        }
        p.image();
        same("11: the 999th", p.toss(0, 35), 0);
        same("11: 999", p.count(8), 999);
        same("11: by one", p.tosser(0, 8), 500);
        same("11: by the other", p.tosser(1, 8), 499);
        for (int tosser = 0; tosser < 3; tosser++) {
            int asked = tosser;
            Checks.refused("11: the 1000th", p, () -> p.toss(asked, 0), Checks.FULL);
            Checks.refused("11: UNKNOWN is told ahead of FULL", p, () -> p.toss(asked, 36), Checks.UNKNOWN);
        }
        p.restore();
        same("11: 998 again", p.count(8), 998);
        same("11: the 999th again", p.toss(2, 0), 0);
        Checks.refused("11: the 1000th again", p, () -> p.toss(0, 0), Checks.FULL);
        Checks.write(p, "00;h22");
        p.port();
        same("11: another port's first", p.toss(0, 0), 1);
    }

    // "The WIND (-1, 0, 1): which it was, told as 1 more. OUTSIDE; STATE: no PORT".
    private static void windUpToOne() {
        PancakePort none = new PancakePort();
        PancakePort p = Checks.portOf("00;h22");
        for (int wrong : new int[] {-2, 2, 3, LOW, HIGH}) {
            Checks.refused("12: wind(" + wrong + ")", p, () -> p.wind(wrong), Checks.OUTSIDE);
            Checks.refused("12: OUTSIDE is told first, wind(" + wrong + ")", none, () -> none.wind(wrong), Checks.OUTSIDE);
        }
        int was = 1;
        for (int wind : new int[] {-1, -1, 0, 1, 1, -1, 1, 0, 0, -1, 0}) {
            same("12: which it was", p.wind(wind), was);
            was = wind + 1;
            same("12: which it is", p.count(4), was);
            Checks.refused("12: no port, wind(" + wind + ")", none, () -> none.wind(wind), Checks.STATE);
        }
    }

    private static void windStays() {
        PancakePort p = Checks.portOf("00,05;h22");
        p.wind(-1);
        p.morning();
        p.move(0, 35);
        p.train(0, 2, 3);
        p.stir(1);
        p.toss(0, 0);
        same("12: until another is told", p.wind(1), 0);
        Checks.write(p, "00;h22");
        p.port();
        same("12: or another port is read", p.wind(1), 1);
    }

    // "how many had a BREAKFAST"; "nobody is COVERED any more".
    private static void morningsOfAllAndNone() {
        PancakePort none = new PancakePort();
        Checks.refused("13: no port", none, none::morning, Checks.STATE);
        PancakePort p = Checks.portOf("00,01,02,10,11,12;w22,h22");
        same("13: none", p.morning(), 0);
        same("13: all cold", p.count(7), 6);
        p.toss(0, 7);
        same("13: all six", p.morning(), 6);
        covered("13: nobody any more", p, "000000");
        same("13: none behind it", p.morning(), 0);
        p.toss(1, 9);
        same("13: the last one alone", p.morning(), 1);
        same("13: he had two", p.sleeper(5, 2), 2);
        same("13: he was cold twice", p.sleeper(5, 3), 2);
        same("13: another had one", p.sleeper(4, 2), 1);
        same("13: another was cold three times", p.sleeper(4, 3), 3);
        same("13: four mornings", p.count(5), 4);
        same("13: the batter is as it was", p.count(3), 54);
        p.toss(0, 7);
        p.move(2, 35);
        same("13: who moved had none", p.morning(), 5);
    }

    // "FULL: 999 were". It lies beyond the 512 calls of an object, too.
    private static void morningsUpTo999() {
        PancakePort p = Checks.portOf("00,55;h22");
        for (int time = 0; time < 998; time++) {
            p.morning();
        }
        p.image();
        p.toss(0, 0);
        same("13: the 999th", p.morning(), 1);
        same("13: 999", p.count(5), 999);
        p.toss(0, 0);
        Checks.refused("13: the 1000th", p, p::morning, Checks.FULL);
        same("13: he stays covered", p.sleeper(0, 1), 1);
        same("13: cold", p.sleeper(0, 3), 998);
        same("13: cold 999 times", p.sleeper(1, 3), 999);
        same("25: back to 998", p.restore(), 998);
        same("13: the 999th again", p.morning(), 0);
        Checks.refused("13: the 1000th again", p, p::morning, Checks.FULL);
        Checks.write(p, "00;h22");
        p.port();
        same("13: another port's first", p.morning(), 0);
        same("13: is one", p.count(5), 1);
    }

    // "One lies down elsewhere ...: in which CELL he was".
    private static void moveAnywhere() {
        PancakePort p = Checks.portOf("00,55;w22");
        int was = 0;
        for (int cell = 1; cell < 35; cell++) {
            same("14: from " + was, p.move(0, cell), was);
            same("14: to " + cell, p.sleeper(0, 0), cell);
            was = cell;
        }
        Checks.refused("14: to 35, where the other lies", p, () -> p.move(0, 35), Checks.STATE);
        same("14: the other to the first cell", p.move(1, 0), 35);
        same("14: to the last cell, which is free now", p.move(0, 35), 34);
        Checks.refused("14: to the first, where the other lies", p, () -> p.move(0, 0), Checks.STATE);
        same("14: to his own", p.move(0, 35), 35);
        same("14: he lies there", p.sleeper(0, 0), 35);
        PancakePort six = Checks.portOf("00,01,02,03,04,05;w22");
        for (int sleeper = 0; sleeper < 6; sleeper++) {
            int asked = sleeper;
            for (int other = 0; other < 6; other++) {
                int cell = other;
                if (other != sleeper) {
                    Checks.refused("14: " + sleeper + " to " + other, six, () -> six.move(asked, cell), Checks.STATE);
                }
            }
            same("14: " + sleeper + " stays", six.move(sleeper, sleeper), sleeper);
        }
    }

    // "(he is not COVERED then)".
    private static void moveUncovers() {
        PancakePort p = Checks.portOf("00,01,02,10,11,12;w22");
        p.toss(0, 7);
        p.move(0, 35);
        covered("14: the first isn't covered", p, "011111");
        p.move(5, 30);
        covered("14: nor the last", p, "011110");
        p.move(3, 6);
        covered("14: nor who stays where he is", p, "011010");
        p.move(0, 0);
        covered("14: nor who comes back", p, "011010");
        same("14: his breakfasts stay", p.sleeper(0, 2), 0);
        p.morning();
        p.move(1, 34);
        same("14: his breakfast is told of him", p.sleeper(1, 2), 1);
        p.toss(0, 0);
        covered("11: one who came back can be covered", p, "100110");
    }

    // "UNKNOWN: sleeper, cell; STATE: another one lies there".
    private static void moveRefused() {
        PancakePort p = Checks.portOf("00,55;w22");
        p.toss(0, 0);
        p.toss(0, 35);
        for (int wrong : new int[] {-1, 36, LOW, HIGH}) {
            Checks.refused("14: cell " + wrong, p, () -> p.move(1, wrong), Checks.UNKNOWN);
        }
        for (int wrong : new int[] {-1, 2, 5, 6, LOW, HIGH}) {
            Checks.refused("14: sleeper " + wrong, p, () -> p.move(wrong, 1), Checks.UNKNOWN);
            Checks.refused("14: UNKNOWN is told ahead of STATE", p, () -> p.move(wrong, 0), Checks.UNKNOWN);
            Checks.refused("14: both", p, () -> p.move(wrong, 36), Checks.UNKNOWN);
        }
        same("14: without a port", new PancakePort().move(0, 0), Checks.UNKNOWN);
        same("14: without a port, a wrong cell", new PancakePort().move(0, 36), Checks.UNKNOWN);
        covered("14: they stay covered", p, "11");
    }

    // "how far it did eastward (as told)".
    private static void trainAnyWrist() {
        PancakePort p = Checks.portOf("22;h13,h22");
        int was = 3;
        for (int south = 0; south <= 4; south++) {
            for (int east = 0; east <= 4; east++) {
                same("15: eastward it did " + was, p.train(0, south, east), was);
                same("15: southward now", p.tosser(0, 1), south);
                same("15: eastward now", p.tosser(0, 2), east);
                same("15: it lands so", p.lands(0, 14), 6 * south + east);
                was = east;
            }
        }
        same("15: the other's stays, southward", p.tosser(1, 1), 2);
        same("15: the other's", p.train(1, 0, 4), 2);
        same("15: the other's lands", p.lands(1, 12), 2);
        p.train(1, 0, 0);
        same("15: MOST by it", p.tosser(1, 4), 27);
    }

    // "UNKNOWN: tosser; OUTSIDE: south, east (0 to 4 each, as told)".
    private static void trainRefused() {
        PancakePort p = Checks.portOf("22;h13,h22,h22,h31");
        for (int wrong : new int[] {-1, -2, 5, LOW, HIGH}) {
            Checks.refused("15: south " + wrong, p, () -> p.train(3, wrong, 4), Checks.OUTSIDE);
            Checks.refused("15: east " + wrong, p, () -> p.train(3, 4, wrong), Checks.OUTSIDE);
            Checks.refused("15: both " + wrong, p, () -> p.train(3, wrong, wrong), Checks.OUTSIDE);
        }
        for (int wrong : new int[] {-1, 4, LOW, HIGH}) {
            Checks.refused("15: tosser " + wrong, p, () -> p.train(wrong, 2, 2), Checks.UNKNOWN);
            Checks.refused("15: UNKNOWN is told ahead of OUTSIDE", p, () -> p.train(wrong, 5, -1), Checks.UNKNOWN);
        }
        same("15: without a port", new PancakePort().train(0, 2, 2), Checks.UNKNOWN);
        same("15: without a port, too far", new PancakePort().train(0, 5, 5), Checks.UNKNOWN);
    }

    // "OUTSIDE: much (1 to 60)": 60 fits from 39 down.
    private static void stirUpTo60() {
        for (int much = -3; much <= 64; much++) {
            PancakePort p = Checks.portOf("00;w22");
            for (int time = 0; time < 12; time++) {
                p.toss(0, 0);
            }
            boolean may = much >= 1 && much <= 60;
            same("16: stir(" + much + ")", p.stir(much), may ? much : Checks.OUTSIDE);
            same("16: there is", p.count(3), may ? much : 0);
        }
    }

    // "FULL: there would be more than 99".
    private static void stirUpTo99() {
        for (int much = 1; much <= 60; much++) {
            PancakePort p = Checks.portOf("00;w22");
            same("16: 60 and " + much, p.stir(much), much <= 39 ? 60 + much : Checks.FULL);
            same("16: there is", p.count(3), much <= 39 ? 60 + much : 60);
        }
        PancakePort p = Checks.portOf("00;h22");
        same("16: up to 98", p.stir(38), 98);
        Checks.refused("16: two more", p, () -> p.stir(2), Checks.FULL);
        same("16: one more", p.stir(1), 99);
        Checks.refused("16: one more than 99", p, () -> p.stir(1), Checks.FULL);
        p.toss(0, 0);
        same("16: one was thrown", p.stir(1), 99);
    }

    private static void stirRefused() {
        PancakePort none = new PancakePort();
        PancakePort full = Checks.portOf("00;w22");
        full.stir(39);
        for (int wrong : new int[] {0, -1, 61, 100, LOW, HIGH}) {
            Checks.refused("16: OUTSIDE is told ahead of STATE", none, () -> none.stir(wrong), Checks.OUTSIDE);
            Checks.refused("16: OUTSIDE is told ahead of FULL", full, () -> full.stir(wrong), Checks.OUTSIDE);
        }
        Checks.refused("16: no port, the least", none, () -> none.stir(1), Checks.STATE);
        Checks.refused("16: no port, the most", none, () -> none.stir(60), Checks.STATE);
    }
}
