import java.util.ArrayList;
import java.util.List;
import java.util.function.Consumer;

/** The edges of what is told of all: the image, the counts, the digest: promises 24 to 27. */
public final class ToldBoundariesTest {
    private static final int LOW = Integer.MIN_VALUE, HIGH = Integer.MAX_VALUE;

    private ToldBoundariesTest() {
    }

    public static void main(String[] args) {
        imageRefused();
        imageTellsMornings();
        imageKeepsEachThing();
        imageOfNothingAndOfAll();
        imageKeepsNoMore();
        imageIsTheLatest();
        imageStaysAsItWas();
        imageIsGoneWithThePort();
        countsOfNothing();
        countsAtTheirLeastAndMost();
        countsRefused();
        digestWithoutPort();
        digestByHand();
        digestOfWhatIsTold();
        digestOnlyTells();
        Checks.end("ToldBoundariesTest");
    }

    private static void same(String what, long got, long want) {
        Checks.same(what, got, want);
    }

    // "STATE: no PORT"; "STATE: none was kept".
    private static void imageRefused() {
        PancakePort p = new PancakePort();
        Checks.refused("24: no port", p, p::image, Checks.STATE);
        Checks.refused("25: no port", p, p::restore, Checks.STATE);
        Checks.write(p, "00;h22");
        Checks.refused("24: the port isn't read yet", p, p::image, Checks.STATE);
        p.port();
        Checks.refused("25: a port, but none was kept", p, p::restore, Checks.STATE);
        same("24: kept", p.image(), 0);
        same("25: goes on from it", p.restore(), 0);
    }

    // "how many MORNINGS there were".
    private static void imageTellsMornings() {
        PancakePort p = Checks.portOf("00;h22");
        for (int mornings = 0; mornings < 20; mornings++) {
            same("24: mornings", p.image(), mornings);
            p.morning();
            p.morning();
            same("25: as many as at the image", p.restore(), mornings);
            same("26: as many there are", p.count(5), mornings);
            p.morning();
        }
    }

    // "An IMAGE keeps where all lie, who is COVERED, BREAKFASTS, COLD, WRISTS, the WIND, BATTER, MORNINGS,
    // TOSSES that were thrown (by each, too), SEEN".
    private static void imageKeepsEachThing() {
        comesBack("where one lies", p -> p.move(5, 13));
        comesBack("where all lie", p -> {
            for (int sleeper = 0; sleeper < 6; sleeper++) {
                p.move(sleeper, 24 + sleeper);
            }
        });
        comesBack("who is covered", p -> p.toss(0, 35));
        comesBack("who isn't any more", p -> p.move(0, 0));
        comesBack("breakfasts and cold", PancakePort::morning);
        comesBack("the wrist of the first", p -> p.train(0, 0, 4));
        comesBack("the wrist of the last", p -> p.train(3, 4, 0));
        comesBack("the wind", p -> p.wind(-1));
        comesBack("no wind", p -> p.wind(0));
        comesBack("batter that was stirred", p -> p.stir(3));
        comesBack("tosses that covered nobody", p -> p.toss(3, 14));
        comesBack("tosses by each", p -> {
            for (int tosser = 0; tosser < 4; tosser++) {
                p.toss(tosser, 0);
            }
        });
        comesBack("what is seen", p -> p.see(0, 0, 0));
        comesBack("what is forgotten", PancakePort::forget);
        comesBack("what is seen otherwise", p -> {
            p.forget();
            p.see(0, 3, 3);
            p.see(1, 2, 1);
        });
        comesBack("what is seen, up to six", p -> {
            for (int time = 0; time < 6; time++) {
                p.see(3, 5, 5);
            }
        });
        comesBack("nothing at all", p -> { });
    }

    private static PancakePort livelyPort() {
        PancakePort p = Checks.portOf("00,05,50,55,22,33;h22,w13,l31,m22");
        p.toss(0, 5);
        p.morning();
        p.morning();
        p.toss(0, 0);
        p.toss(1, 19);
        p.wind(1);
        p.see(1, 0, Checks.NONE);
        p.see(3, 5, 4);
        p.stir(2);
        return p;
    }

    /** All that is told is as at the image; and so is what an untouched one does from there on. */
    private static void comesBack(String what, Consumer<PancakePort> change) {
        PancakePort p = livelyPort();
        PancakePort twin = livelyPort();
        long before = p.digest();
        same("24: " + what, p.image(), 2);
        for (int time = 0; time < 2; time++) {
            change.accept(p);
            same("25: " + what, p.restore(), 2);
            same("25: is as it was: " + what, p.digest(), before);
        }
        for (int call = 0; call < 3; call++) {
            same("25: the next toss: " + what, p.toss(3, 7 * call), twin.toss(3, 7 * call));
            same("25: the next that is seen: " + what, p.see(3, call, call), twin.see(3, call, call));
            same("25: then: " + what, p.digest(), twin.digest());
        }
        same("25: the next morning: " + what, p.morning(), twin.morning());
        same("25: behind it: " + what, p.digest(), twin.digest());
    }

    private static void imageOfNothingAndOfAll() {
        PancakePort p = Checks.portOf("00,01;h22");
        long fresh = p.digest();
        p.image();
        for (int time = 0; time < 6; time++) {
            p.see(0, 2, 3);
        }
        while (p.count(3) > 0) {
            p.toss(0, 0);
        }
        p.wind(-1);
        p.restore();
        same("25: all is as in a fresh port", p.digest(), fresh);
        same("25: none is seen: there is room for six", p.see(0, 2, 3), 1);
        while (p.count(9) < 6) {
            p.see(0, 2, 3);
        }
        while (p.count(3) > 0) {
            p.toss(0, 0);
        }
        p.image();
        long full = p.digest();
        p.forget();
        p.stir(60);
        p.morning();
        p.restore();
        same("25: all is full again", p.digest(), full);
        same("25: no seventh", p.see(0, 2, 3), Checks.FULL);
        same("25: no batter", p.toss(0, 0), Checks.STATE);
        same("25: both are covered", p.count(2), 2);
        p.forget();
        same("22: one behind six", p.see(0, 0, Checks.NONE), 1);
        p.restore();
        same("25: six again, each as it was", p.tosser(0, 6), 8);
    }

    // What isn't told of an image isn't kept: the page, and how often a port was read.
    private static void imageKeepsNoMore() {
        PancakePort p = Checks.portOf("00;h22");
        Checks.write(p, "12");
        p.image();
        p.letter('3');
        p.restore();
        same("25: the page stays", p.count(10), 3);
        p.blank();
        p.restore();
        same("25: an empty page, too", p.count(10), 0);
        Checks.write(p, "00;h22");
        p.port();
        p.image();
        same("25: ports read", p.count(11), 2);
        p.restore();
        same("25: ports read, as before", p.count(11), 2);
    }

    // "(one; the latest)".
    private static void imageIsTheLatest() {
        PancakePort p = Checks.portOf("00;h22");
        p.image();
        p.toss(0, 0);
        p.morning();
        same("24: a second", p.image(), 1);
        p.morning();
        same("25: the second", p.restore(), 1);
        same("25: the second, not the first behind it", p.restore(), 1);
        p.move(0, 35);
        p.restore();
        same("25: he lies where he lay", p.sleeper(0, 0), 0);
        same("24: kept once more, when it goes on from it", p.image(), 1);
        p.morning();
        same("24: a later one", p.image(), 2);
        same("25: the later one", p.restore(), 2);
    }

    // What is done behind an image, or behind going on from it, doesn't change it.
    private static void imageStaysAsItWas() {
        PancakePort p = Checks.portOf("00,55;h22,h22");
        p.toss(0, 0);
        p.see(0, 2, 2);
        p.image();
        long kept = p.digest();
        for (int round = 0; round < 3; round++) {
            p.move(0, 20 + round);
            p.train(1, round, 4);
            p.toss(1, 35);
            p.wind(round - 1);
            p.see(1, 0, Checks.NONE);
            p.morning();
            p.restore();
            same("25: round " + round, p.digest(), kept);
        }
    }

    // "or a PORT was read since (of the same text, too)".
    private static void imageIsGoneWithThePort() {
        PancakePort p = Checks.portOf("00;h22");
        p.image();
        Checks.write(p, "00;h2");
        same("5: it is no port", p.port(), Checks.STATE);
        same("25: the image is still kept", p.restore(), 0);
        p.letter('2');
        same("5: of the same text", p.port(), 1);
        Checks.refused("25: the image is gone", p, p::restore, Checks.STATE);
        p.morning();
        same("24: another one", p.image(), 1);
        same("25: is kept", p.restore(), 1);
        Checks.write(p, "11;w33");
        p.port();
        Checks.refused("25: gone with another port, too", p, p::restore, Checks.STATE);
    }

    // "How many: ... 3 BATTER (0: no PORT), 4 the WIND, told as 1 more (1: no PORT)".
    private static void countsOfNothing() {
        PancakePort p = new PancakePort();
        for (int what = 0; what <= 11; what++) {
            same("26: without a port, count(" + what + ")", p.count(what), what == 4 ? 1 : 0);
        }
        p.wind(-1);
        p.stir(10);
        same("26: a refused wind", p.count(4), 1);
        same("26: refused batter", p.count(3), 0);
        Checks.write(p, "00");
        same("26: letters without a port", p.count(10), 2);
        p.port();
        same("26: a refused port isn't read", p.count(11), 0);
    }

    private static void countsAtTheirLeastAndMost() {
        PancakePort p = Checks.portOf("00,01,02,10,11,12;w22,h22,h22,h22");
        same("26: six sleepers", p.count(0), 6);
        same("26: four tossers", p.count(1), 4);
        same("26: none covered", p.count(2), 0);
        p.toss(0, 7);
        same("26: all covered", p.count(2), 6);
        p.morning();
        same("26: six breakfasts", p.count(6), 6);
        same("26: no cold", p.count(7), 0);
        p.morning();
        same("26: six times cold", p.count(7), 6);
        same("26: breakfasts stay", p.count(6), 6);
        p.stir(44);
        same("26: most batter", p.count(3), 99);
        for (int time = 0; time < 99; time++) {
            p.toss(1 + time % 3, 0);
        }
        same("26: no batter", p.count(3), 0);
        same("26: tosses", p.count(8), 100);
        same("26: a column of each wind, westward", p.wind(-1) + p.count(4), 1);
        same("26: eastward", p.wind(1) + p.count(4), 2);
        for (int time = 0; time < 7; time++) {
            p.see(0, 0, 0);
        }
        same("26: six are seen", p.count(9), 6);
        for (int time = 0; time < 40; time++) {
            p.letter('0');
        }
        same("26: 36 letters", p.count(10), 36);
        PancakePort often = new PancakePort();
        for (int time = 1; time <= 60; time++) {
            Checks.write(often, "00;h22");
            often.port();
            same("26: ports read", often.count(11), time);
        }
    }

    private static void countsRefused() {
        PancakePort none = new PancakePort();
        PancakePort p = livelyPort();
        for (int wrong : new int[] {-1, -2, 12, 13, LOW, HIGH}) {
            Checks.refused("26: count(" + wrong + ")", p, () -> p.count(wrong), Checks.OUTSIDE);
            Checks.refused("26: without a port, count(" + wrong + ")", none, () -> none.count(wrong), Checks.OUTSIDE);
        }
    }

    private static long hash(long... numbers) {
        long h = 1217;
        for (long number : numbers) {
            h = 31 * h + number;
        }
        return h;
    }

    // "with a PORT (all up to the next semicolon)": without one the letters and the counts alone.
    private static void digestWithoutPort() {
        PancakePort p = new PancakePort();
        same("27: a new object", p.digest(), hash(0, 0, 0, 0, 1, 0, 0, 0, 0, 0, 0, 0));
        p.letter(126);
        p.letter(1);
        same("27: two letters", p.digest(), hash(126, 1, 0, 0, 0, 0, 1, 0, 0, 0, 0, 0, 2, 0));
        p.blank();
        same("27: the page is empty", p.digest(), hash(0, 0, 0, 0, 1, 0, 0, 0, 0, 0, 0, 0));
    }

    /** Each number worked out by hand. */
    private static void digestByHand() {
        PancakePort p = Checks.portOf("22,00,55;t24,h00");
        same("27: fresh", p.digest(), hash(
            // LIE: the first tosser lands in columns 2 to 5, the other in rows and columns 0 to 3: cell 8 has 4 and 3 tosses.
            14, 0, 0, 0, 8, 0, 0, 0, 0, 8, 35, 0, 0, 0, 8,
            // MOST: from 6 in 8, above the first sleeper. From 14 in 16: beside nobody.
            0, 2, 4, 3, 6, 1, 31, 1, 0, 16, 0,
            // MOST: from 14 in 0, where the second sleeper lies, told as 2.
            3, 0, 0, 1, 14, 1, 31, 1, 0, 0, 2,
            // The third one by a plain toss from 27 in 29; the second from 14, the first from 27 in 13.
            5, 3, 27, 36 + 14, 36 + 27, -1, -1, -1, 12, 2, 3,
            3, 2, 0, 60, 1, 0, 0, 0, 0, 0, 0, 1));
    }

    /** The document's numbers in the document's order, as the other calls tell them. */
    private static void digestOfWhatIsTold() {
        PancakePort p = new PancakePort();
        tells("27: new", p, "");
        String[] texts = {"00;t00", "55,54,53,52,51,50;t44,l44,w44,m44", "22,00,55;t24,h00", "13,31;w22,l13", "00,05,50,55,22;h22"};
        for (String text : texts) {
            Checks.write(p, text);
            tells("27: " + text + " on the page", p, text);
            p.port();
            tells("27: " + text + " read", p, "");
            p.wind(1);
            p.toss(0, 14);
            tells("27: a toss by the wind", p, "");
            p.morning();
            p.see(0, 0, Checks.NONE);
            p.see(p.count(1) - 1, 5, 3);
            Checks.write(p, "~\u0001;");
            tells("27: seen in the morning", p, "~\u0001;");
            p.wind(-1);
            p.train(0, 2, 2);
            p.move(0, 14);
            p.stir(11);
            p.toss(0, 15);
            tells("27: trained, moved, stirred", p, "~\u0001;");
            p.blank();
        }
        Checks.write(p, "012345;tlwhm,012345;tlwhm,012345;tlw");
        tells("27: a full page", p, "012345;tlwhm,012345;tlwhm,012345;tlw");
    }

    private static void tells(String what, PancakePort p, String page) {
        List<Integer> told = new ArrayList<>();
        for (int sleeper = 0; sleeper < p.count(0); sleeper++) {
            for (int asked = 0; asked <= 4; asked++) {
                told.add(p.sleeper(sleeper, asked));
            }
        }
        for (int tosser = 0; tosser < p.count(1); tosser++) {
            for (int asked = 0; asked <= 8; asked++) {
                told.add(p.tosser(tosser, asked));
            }
            told.add(p.lands(tosser, 14));
            told.add(p.covers(tosser, 14));
        }
        if (p.count(0) > 0) {
            for (int asked : new int[] {0, 1, 10, 11, 12, 13, 14, 15}) {
                told.add(p.all(asked));
            }
            told.add(p.nights());
            told.add(p.who(0));
            told.add(p.who(21));
        }
        page.chars().forEach(told::add);
        for (int asked = 0; asked <= 11; asked++) {
            told.add(p.count(asked));
        }
        same(what, p.digest(), hash(told.stream().mapToLong(number -> number).toArray()));
    }

    private static void digestOnlyTells() {
        PancakePort p = livelyPort();
        p.image();
        long first = p.digest();
        same("27: the same again", p.digest(), first);
        p.morning();
        same("27: another one", p.digest() == first ? 1 : 0, 0);
        p.digest();
        p.restore();
        same("27: the image isn't touched by it", p.digest(), first);
        same("27: a twin tells the same", livelyPort().digest(), first);
    }
}
