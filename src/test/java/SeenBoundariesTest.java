import java.math.BigInteger;

/** The edges of what is seen and of the seasons: promises 21 to 23, and TURNS and AIM of promise 7. */
public final class SeenBoundariesTest {
    private static final int LOW = Integer.MIN_VALUE, HIGH = Integer.MAX_VALUE;

    private SeenBoundariesTest() {
    }

    public static void main(String[] args) {
        turnsByOneSeen();
        turnsBySeveral();
        turnsOfEachTosser();
        turnsWithoutWindOrWrist();
        aimOfTheTurnsLeft();
        seenUpToSix();
        seeRefused();
        forgetSixAndNone();
        seasonsByDraws();
        seasonsOfEachTosser();
        seasonsTogetherAndAtAll();
        seasonsByTheWrist();
        seasonsTakeNothing();
        seasonsOneToSixty();
        seasonsBySeed();
        seasonsAsLandsAndCoversTell();
        seasonsRefused();
        Checks.end("SeenBoundariesTest");
    }

    private static void same(String what, long got, long want) {
        Checks.same(what, got, want);
    }

    // "TURNS (0 to 4, as told) it can have, so that all that is SEEN of it is so: as bits";
    // "(NONE: in none by that, whatever the row)".
    private static void turnsByOneSeen() {
        int[] byNone = {1 + 2, 1, 0, 0, 16, 8 + 16};
        int[][] byColumn = {{4, 8, 16, 0, 0, 0}, {2, 4, 8, 16, 0, 0}, {1, 2, 4, 8, 16, 0},
            {0, 1, 2, 4, 8, 16}, {0, 0, 1, 2, 4, 8}, {0, 0, 0, 1, 2, 4}};
        PancakePort p = Checks.portOf("00;t22");
        same("7: nothing seen: all turns", p.tosser(0, 6), 31);
        for (int aim = 0; aim < 6; aim++) {
            same("21: none by aim " + aim, p.see(0, aim, Checks.NONE), 1);
            same("7: turns, none by aim " + aim, p.tosser(0, 6), byNone[aim]);
            p.forget();
            for (int column = 0; column < 6; column++) {
                same("21: column " + column + " by aim " + aim, p.see(0, aim, column), 1);
                same("7: turns, column " + column + " by aim " + aim, p.tosser(0, 6), byColumn[aim][column]);
                p.forget();
            }
        }
    }

    private static void turnsBySeveral() {
        PancakePort p = Checks.portOf("00;t22");
        p.see(0, 0, Checks.NONE);
        same("7: 0 or 1", p.tosser(0, 6), 3);
        p.see(0, 0, Checks.NONE);
        same("7: the same once more", p.tosser(0, 6), 3);
        p.see(0, 1, 0);
        same("7: it is 1", p.tosser(0, 6), 2);
        p.see(0, 5, 4);
        same("7: it is so", p.tosser(0, 6), 2);
        p.see(0, 5, 5);
        same("7: it cannot be", p.tosser(0, 6), 0);
        p.see(0, 1, 0);
        same("7: nor any more", p.tosser(0, 6), 0);
        p.forget();
        p.see(0, 0, Checks.NONE);
        p.see(0, 5, Checks.NONE);
        same("7: beyond both sides: it cannot be", p.tosser(0, 6), 0);
        p.forget();
        p.see(0, 4, Checks.NONE);
        p.see(0, 5, Checks.NONE);
        same("7: it is 4", p.tosser(0, 6), 16);
    }

    private static void turnsOfEachTosser() {
        PancakePort p = Checks.portOf("00;t22,l22,w22,m22");
        for (int tosser = 0; tosser < 4; tosser++) {
            same("21: of " + tosser, p.see(tosser, 2, tosser), tosser + 1);
        }
        for (int tosser = 0; tosser < 4; tosser++) {
            same("7: turns of " + tosser, p.tosser(tosser, 6), 1 << tosser);
            same("7: aim of " + tosser, p.tosser(tosser, 7), 0);
        }
        p.forget();
        p.see(3, 0, Checks.NONE);
        same("7: turns of who is seen", p.tosser(3, 6), 3);
        same("7: turns of who isn't", p.tosser(2, 6), 31);
        same("7: aim of who is seen", p.tosser(3, 7), 1);
    }

    // "aimed at a column, without WIND"; it is not known how far the WRIST turns.
    private static void turnsWithoutWindOrWrist() {
        PancakePort p = Checks.portOf("00;t22");
        p.wind(1);
        p.see(0, 2, 3);
        same("7: eastward by one, whatever the wind", p.tosser(0, 6), 8);
        p.wind(-1);
        same("7: whatever the wind now", p.tosser(0, 6), 8);
        p.forget();
        same("7: aim of all turns, whatever the wind", p.tosser(0, 7), 1);
        p.see(0, 3, 1);
        same("7: whatever the wrist", p.tosser(0, 6), 1);
        p.train(0, 4, 4);
        same("7: what is seen stays seen, as another wrist is trained", p.tosser(0, 6), 1);
        same("26: it is one still", p.count(9), 1);
        p.toss(0, 0);
        p.morning();
        same("7: a toss isn't seen by itself, nor forgotten in the morning", p.count(9), 1);
    }

    // "AIM ...: so that fewest of these are left at worst, by where it LANDS: of like ones the least; none".
    private static void aimOfTheTurnsLeft() {
        PancakePort p = Checks.portOf("00;t22");
        same("7: of all turns, 0 leaves two beyond the west, 1 one everywhere", p.tosser(0, 7), 1);
        p.see(0, 0, Checks.NONE);
        same("7: of 0 and 1, at 0 both are beyond", p.tosser(0, 7), 1);
        p.forget();
        p.see(0, 5, Checks.NONE);
        same("7: of 3 and 4, at 0 they part", p.tosser(0, 7), 0);
        p.forget();
        for (int column = 0; column <= 4; column++) {
            p.see(0, 2, column);
            same("7: of one turn, any aim", p.tosser(0, 7), 0);
            p.forget();
        }
        p.see(0, 2, 5);
        same("7: of no turn, none", p.tosser(0, 7), Checks.NONE);
    }

    // "SEEN (6 at most)"; "It is SEEN: how much is".
    private static void seenUpToSix() {
        PancakePort p = Checks.portOf("00;t22,l22,w22,m22");
        for (int time = 0; time < 6; time++) {
            same("21: how much is", p.see(time % 4, 2, 2), time + 1);
            same("26: as count() tells", p.count(9), time + 1);
        }
        for (int tosser = 0; tosser < 4; tosser++) {
            int asked = tosser;
            Checks.refused("21: the seventh, of " + tosser, p, () -> p.see(asked, 2, 2), Checks.FULL);
            Checks.refused("21: the seventh, none", p, () -> p.see(asked, 0, Checks.NONE), Checks.FULL);
            same("7: it isn't seen", p.tosser(tosser, 6), 4);
        }
        same("22: six were", p.forget(), 6);
        same("21: the first again", p.see(0, 2, 2), 1);
    }

    // "UNKNOWN: tosser; OUTSIDE: aim (0 to 5), column (0 to 5; NONE); FULL".
    private static void seeRefused() {
        PancakePort p = Checks.portOf("00;t22,l22,w22,m22");
        for (int round = 0; round < 2; round++) {
            for (int wrong : new int[] {-1, 6, 35, LOW, HIGH}) {
                Checks.refused("21: aim " + wrong, p, () -> p.see(3, wrong, 0), Checks.OUTSIDE);
                Checks.refused("21: aim " + wrong + ", none", p, () -> p.see(3, wrong, Checks.NONE), Checks.OUTSIDE);
            }
            for (int wrong : new int[] {-2, 6, 35, LOW, HIGH}) {
                Checks.refused("21: column " + wrong, p, () -> p.see(3, 5, wrong), Checks.OUTSIDE);
                Checks.refused("21: both", p, () -> p.see(3, wrong, wrong), Checks.OUTSIDE);
            }
            for (int wrong : new int[] {-1, 4, LOW, HIGH}) {
                Checks.refused("21: tosser " + wrong, p, () -> p.see(wrong, 0, 0), Checks.UNKNOWN);
                Checks.refused("21: UNKNOWN is told ahead of OUTSIDE", p, () -> p.see(wrong, 6, -2), Checks.UNKNOWN);
            }
            // In the second round it is full, and UNKNOWN and OUTSIDE are told ahead of FULL.
            while (p.count(9) < 6) {
                p.see(3, 5, 5);
            }
        }
        same("21: without a port", new PancakePort().see(0, 0, 0), Checks.UNKNOWN);
        same("21: without a port, wrong", new PancakePort().see(0, 6, 6), Checks.UNKNOWN);
    }

    // "Nothing is SEEN any more: how much was".
    private static void forgetSixAndNone() {
        PancakePort p = Checks.portOf("00;t22,l22");
        same("22: nothing was", p.forget(), 0);
        for (int much = 1; much <= 6; much++) {
            for (int time = 0; time < much; time++) {
                p.see(time % 2, 3, 3);
            }
            same("22: how much was", p.forget(), much);
            same("22: nothing is", p.count(9), 0);
            same("22: all turns", p.tosser(0, 6), 31);
            same("22: all turns of the other", p.tosser(1, 6), 31);
        }
        same("22: nothing was any more", p.forget(), 0);
        same("22: without a port", new PancakePort().forget(), 0);
    }

    private static void seasons(String what, PancakePort p, int times, int seed, int... due) {
        for (int asked = 0; asked <= 2; asked++) {
            same("23: " + what + ", " + times + " by " + seed + ", what " + asked, p.seasons(times, seed, asked), due[asked]);
        }
    }

    // "the WIND is told by a DRAW of 3, and 1 less, then one by a DRAW of how many TOSSERS there are
    // aims at a CELL by a DRAW of 36": by seed 1 the wind is 1 and the cell 33, then 0 and 11, then -1 and 12.
    private static void seasonsByDraws() {
        PancakePort p = Checks.portOf("53,54,55,14,15,20;h22");
        seasons("lands in 34: three", p, 1, 1, 3, 3, 662824084);
        seasons("lands in 11, too: two more", p, 2, 1, 5, 5, 368800899);
        seasons("lands beyond the west, too: none more", p, 3, 1, 5, 5, 1062517886);
        // By seed 0 the wind is -1 and the cell 16, then 0 and 7, then 0 and 26.
        PancakePort q = Checks.portOf("22,24,25,10,12,43;h22");
        seasons("lands in 15: two", q, 1, 0, 2, 2, 654583775);
        seasons("lands in 7, too: two more", q, 2, 0, 4, 4, 1109335178);
        seasons("lands in 26, too: one more", q, 3, 0, 5, 5, 794471793);
        seasons("nobody", Checks.portOf("00;h22"), 1, 0, 0, 0, 654583775);
    }

    // By seed 1 the first one's number is 0 of 1 or 2, 1 of 3, 2 of 4; the next one's 1 of 2 or 3, 3 of 4.
    private static void seasonsOfEachTosser() {
        seasons("of two", Checks.portOf("53,54,55,14,15,11;h22,m22"), 1, 1, 3, 3, 662824084);
        seasons("of two: the other's", Checks.portOf("53,54,55,14,15,11;h22,m22"), 2, 1, 4, 4, 368800899);
        seasons("of three: the second one's", Checks.portOf("53,54,55,44,43,11;h22,m22,h22"), 1, 1, 4, 4, 662824084);
        seasons("of four: the third one's", Checks.portOf("53,54,55,14,15,20;h22,h22,m22,w22"), 1, 1, 2, 2, 662824084);
        seasons("of four: the fourth one's, too", Checks.portOf("53,54,55,14,15,20;h22,h22,m22,w22"), 2, 1, 4, 4, 368800899);
        // By seed 3 of three it is the first one three times, of four the fourth, the third, the fourth.
        seasons("of three: the first one's", Checks.portOf("54;h22,m22,m22"), 1, 3, 1, 1, 679304702);
        seasons("of four: not the first one's", Checks.portOf("54;h22,h22,h22,m22"), 1, 3, 0, 0, 679304702);
    }

    // "how many SLEEPERS each covers, all together; how many lie where any covered them at all":
    // by seed 3 the wind is 1 and the cell 33, then 1 and 28, then -1 and 20.
    private static void seasonsTogetherAndAtAll() {
        PancakePort p = Checks.portOf("44,45,54,55;w22");
        seasons("all four", p, 1, 3, 4, 4, 679304702);
        seasons("all four again", p, 2, 3, 8, 4, 1035215989);
        seasons("none of them", p, 3, 3, 8, 4, 1598610072);
        PancakePort q = Checks.portOf("53,35,30,23;w22");
        seasons("the first", q, 1, 3, 1, 1, 679304702);
        seasons("then the second", q, 2, 3, 2, 2, 1035215989);
        seasons("then the third", q, 3, 3, 3, 3, 1598610072);
    }

    private static void seasonsByTheWrist() {
        PancakePort p = Checks.portOf("33,34,35,22;h33");
        seasons("from 16 westward by the wind, a row and a column by the wrist", p, 1, 0, 3, 3, 654583775);
        p.train(0, 2, 2);
        seasons("a straight wrist", p, 1, 0, 1, 1, 654583775);
        p.move(0, 14 + 1);
        seasons("one more lies there", p, 1, 0, 2, 2, 654583775);
    }

    // "(whatever BATTER there is; nothing is taken)"; as they would be: nothing is done.
    private static void seasonsTakeNothing() {
        PancakePort p = Checks.portOf("22,24,25,10,12,43;h22,h22");
        int together = p.seasons(60, 5, 0);
        int atAll = p.seasons(60, 5, 1);
        p.wind(1);
        p.toss(0, 13);
        same("23: some is covered", p.count(2) > 0 ? 1 : 0, 1);
        long before = p.digest();
        same("23: whatever the wind is, and who is covered", p.seasons(60, 5, 0), together);
        same("23: at all", p.seasons(60, 5, 1), atAll);
        same("23: nothing is done by it", p.digest(), before);
        while (p.count(3) > 0) {
            p.toss(1, 0);
        }
        before = p.digest();
        same("23: without batter", p.seasons(60, 5, 0), together);
        same("23: without batter, at all", p.seasons(60, 5, 1), atAll);
        same("23: without batter, nothing is done by it", p.digest(), before);
    }

    // "OUTSIDE: times (1 to 60)".
    private static void seasonsOneToSixty() {
        PancakePort p = Checks.portOf("22;h22");
        for (int times = -2; times <= 63; times++) {
            boolean may = times >= 1 && times <= 60;
            same("23: times " + times, p.seasons(times, 9, 2), may ? seedBehind(9, 3 * times) : Checks.OUTSIDE);
        }
        PancakePort all = Checks.portOf("00,05,50,55,22,33;w22,w22,w22,w22");
        int most = 0;
        for (int times = 1; times <= 60; times++) {
            int atAll = all.seasons(times, 9, 1);
            same("23: at all never less than ahead of it, nor above six", atAll >= most && atAll <= 6 ? 1 : 0, 1);
            most = atAll;
        }
        same("23: all six in sixty", most, 6);
    }

    // "seed (0 at least)"; "1103515245 times it and 12345, its rest by 2 to the 31".
    private static void seasonsBySeed() {
        PancakePort p = Checks.portOf("22;h22");
        for (int seed : new int[] {0, 1, 2, 65535, 65536, 1 << 30, HIGH - 1, HIGH}) {
            same("23: the seed behind " + seed, p.seasons(1, seed, 2), seedBehind(seed, 3));
            same("23: the seed far behind " + seed, p.seasons(60, seed, 2), seedBehind(seed, 180));
        }
        // By the greatest seed: the wind is 1 and the cell 34, then -1 and 2, then 1 and 4.
        seasons("the greatest seed, in the corner", Checks.portOf("54,55,53;h22"), 1, HIGH, 2, 2, 646343466);
        seasons("the greatest seed, next", Checks.portOf("00,01,02;h22"), 2, HIGH, 3, 3, 1849869457);
        seasons("the greatest seed, then", Checks.portOf("05,04,03;h22"), 3, HIGH, 2, 2, 526425700);
        for (int wrong : new int[] {-1, -2, LOW}) {
            Checks.refused("23: seed " + wrong, p, () -> p.seasons(1, wrong, 2), Checks.OUTSIDE);
        }
    }

    private static long seedBehind(long seed, int draws) {
        BigInteger now = BigInteger.valueOf(seed);
        for (int draw = 0; draw < draws; draw++) {
            now = now.multiply(BigInteger.valueOf(1103515245)).add(BigInteger.valueOf(12345)).mod(BigInteger.TWO.pow(31));
        }
        return now.longValue();
    }

    /** Each season thrown by hand: the wind is told, and covers() asked. */
    private static void seasonsAsLandsAndCoversTell() {
        String[] texts = {"00,11,22,33,44,55;t22,l13,w40,h24", "14,15,20;m00,w44", "35;l44,t22,h31", "50,23;w33"};
        for (String text : texts) {
            PancakePort p = Checks.portOf(text);
            PancakePort q = Checks.portOf(text);
            for (int seed = 11; seed < 26; seed++) {
                int together = 0;
                int ever = 0;
                for (int times = 1; times <= 20; times++) {
                    q.wind(drawn(seed, 3 * times - 2, 3) - 1);
                    int crowd = q.covers(drawn(seed, 3 * times - 1, q.count(1)), drawn(seed, 3 * times, 36));
                    together += Integer.bitCount(crowd);
                    ever |= crowd;
                    same("23: together in " + text, p.seasons(times, seed, 0), together);
                    same("23: at all in " + text, p.seasons(times, seed, 1), Integer.bitCount(ever));
                }
            }
        }
    }

    private static int drawn(int seed, int draws, int of) {
        return (int) (seedBehind(seed, draws) / 65536 % of);
    }

    // "OUTSIDE: times, seed, what; STATE: no PORT".
    private static void seasonsRefused() {
        PancakePort none = new PancakePort();
        PancakePort p = Checks.portOf("22;h22");
        for (int wrong : new int[] {-1, 3, 4, LOW, HIGH}) {
            Checks.refused("23: what " + wrong, p, () -> p.seasons(1, 0, wrong), Checks.OUTSIDE);
            Checks.refused("23: OUTSIDE is told ahead of STATE, what", none, () -> none.seasons(1, 0, wrong), Checks.OUTSIDE);
        }
        for (int wrong : new int[] {0, -1, 61, LOW, HIGH}) {
            Checks.refused("23: times " + wrong, p, () -> p.seasons(wrong, 0, 0), Checks.OUTSIDE);
            Checks.refused("23: OUTSIDE is told ahead of STATE, times", none, () -> none.seasons(wrong, 0, 0), Checks.OUTSIDE);
        }
        Checks.refused("23: OUTSIDE is told ahead of STATE, seed", none, () -> none.seasons(1, -1, 0), Checks.OUTSIDE);
        for (int what = 0; what <= 2; what++) {
            int asked = what;
            Checks.refused("23: no port", none, () -> none.seasons(1, 0, asked), Checks.STATE);
            Checks.refused("23: no port", none, () -> none.seasons(60, HIGH, asked), Checks.STATE);
        }
    }
}
