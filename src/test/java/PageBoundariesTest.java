/** The edges of a port as a text, and of the page: the document's terms, and promises 1 to 5. */
public final class PageBoundariesTest {
    private static final String SMALLEST = "00;t00", LARGEST = "55,54,53,52,51,50;t44,l44,w44,m44";

    private PageBoundariesTest() {
    }

    public static void main(String[] args) {
        nothingAtFirst();
        lettersByTheirCodes();
        emptyAndFullPage();
        lettersThatPortsHave();
        digitsOfEveryPlace();
        noTwoInOneCell();
        oneToSixSleepers();
        oneToFourTossers();
        faultIsTheFirst();
        faultTellsOnly();
        everyBeginningIsNoPort();
        smallestAndLargest();
        anotherPortIsGone();
        refusedPortChangesNothing();
        Checks.end("PageBoundariesTest");
    }

    private static void same(String what, long got, long want) {
        Checks.same(what, got, want);
    }

    // "No PORT." "At first there is none; then nobody is covered, there is no WIND, BATTER is 60."
    private static void nothingAtFirst() {
        PancakePort p = new PancakePort();
        same("1: no port for nights", p.nights(), Checks.STATE);
        same("1: no batter without a port", p.count(3), 0);
        same("1: no wind, told as 1 more", p.count(4), 1);
        same("1: two objects are two", new PancakePort().letter('0'), p.letter('0'));
        Checks.write(p, "0;t22");
        p.port();
        same("terms: nobody is covered", p.count(2), 0);
        same("terms: he isn't covered", p.sleeper(0, 1), 0);
        same("terms: there is no wind", p.count(4), 1);
        same("terms: so it lands straight", p.lands(0, 35), 35);
        same("terms: batter is 60", p.count(3), 60);
        same("terms: no mornings", p.count(5), 0);
        same("terms: no tosses", p.count(8), 0);
        same("terms: nothing seen", p.count(9), 0);
    }

    // "OUTSIDE: code (1 to 126)".
    private static void lettersByTheirCodes() {
        for (int code = -300; code <= 400; code++) {
            PancakePort p = new PancakePort();
            boolean isLetter = code >= 1 && code <= 126;
            same("2: letter(" + code + ")", p.letter(code), isLetter ? 1 : Checks.OUTSIDE);
            same("2: the page behind it", p.count(10), isLetter ? 1 : 0);
        }
        PancakePort p = new PancakePort();
        // The machine must not take 65536 and '0' for '0'.
        same("2: a code of more than 16 bits", p.letter(65536 + '0'), Checks.OUTSIDE);
    }

    // "how many THE PAGE has"; "FULL: above 36"; "THE PAGE is empty: how many letters it had".
    private static void emptyAndFullPage() {
        PancakePort p = new PancakePort();
        same("3: the page was empty", p.blank(), 0);
        for (int had = 0; had < 36; had++) {
            same("2: letter behind " + had, p.letter(had + 1), had + 1);
        }
        for (int code = 1; code <= 126; code++) {
            same("2: letter " + code + " above 36", p.letter(code), Checks.FULL);
        }
        same("2: OUTSIDE is told first of a full page, below", p.letter(0), Checks.OUTSIDE);
        same("2: OUTSIDE is told first of a full page, above", p.letter(127), Checks.OUTSIDE);
        same("2: the page has 36", p.count(10), 36);
        same("3: the page was full", p.blank(), 36);
        same("3: the page is empty", p.count(10), 0);
        same("3: again", p.blank(), 0);
        same("2: the first letter again", p.letter('3'), 1);
        Checks.write(p, "4;h01");
        same("3: none of the old letters is left", p.port(), 1);
        same("3: but the new ones", p.sleeper(0, 0), 22);
        PancakePort q = new PancakePort();
        for (int time = 0; time < 3; time++) {
            Checks.write(q, "012345012345012345012345012345012345");
            same("3: full once more", q.blank(), 36);
        }
    }

    // "The place (from 0) of the first letter of THE PAGE that no PORT has there, behind those ahead of it".
    private static void lettersThatPortsHave() {
        followedBy("", "012345");
        followedBy("0", "012345");
        followedBy("5", "012345");
        followedBy("00", ",;");
        followedBy("55", ",;");
        followedBy("00,", "012345");
        followedBy("00,0", "12345");
        followedBy("00,1", "012345");
        followedBy("32,3", "01345");
        followedBy("55,5", "01234");
        followedBy("00,55", ",;");
        followedBy("00;", "tlwhm");
        followedBy("00;t", "01234");
        followedBy("00;l", "01234");
        followedBy("00;w", "01234");
        followedBy("00;h", "01234");
        followedBy("00;m", "01234");
        followedBy("00;m0", "01234");
        followedBy("00;m4", "01234");
        followedBy("00;m40", ",");
        followedBy("00;t00,", "tlwhm");
        followedBy("00;t00,h", "01234");
        followedBy("00;t00,h4", "01234");
    }

    private static void followedBy(String text, String letters) {
        for (int code = 1; code <= 126; code++) {
            boolean may = letters.indexOf(code) >= 0;
            String longer = text + (char) code;
            same("4: letter " + code + " behind \"" + text + "\"", Checks.faultOf(longer), may ? longer.length() : text.length());
            PancakePort p = new PancakePort();
            Checks.write(p, longer);
            // Of these texts only those are whole that end with a wrist's second digit.
            boolean whole = may && text.matches(".*[tlwhm][0-4]");
            same("5: port of \"" + longer + "\"", p.port(), whole ? 1 : Checks.STATE);
            same("5: how often one was read", p.count(11), whole ? 1 : 0);
        }
    }

    // "each two digits, the row and the column"; "two digits (0 to 4 each)": of each sleeper and each tosser.
    private static void digitsOfEveryPlace() {
        String text = LARGEST;
        for (int place = 0; place < text.length(); place++) {
            boolean ofSleeper = place < 17;
            if (!Character.isDigit(text.charAt(place))) {
                continue;
            }
            for (char digit = '0' - 1; digit <= '9' + 1; digit++) {
                String ahead = text.substring(0, place);
                String cell = ahead.substring(ofSleeper ? place / 3 * 3 : 0) + digit;
                boolean taken = ofSleeper && place % 3 == 1 && ahead.contains(cell);
                boolean may = digit >= '0' && digit <= (ofSleeper ? '5' : '4') && !taken;
                same("4: sign " + digit + " at " + place, Checks.faultOf(ahead + digit), may ? place + 1 : place);
            }
        }
    }

    // "no two in one CELL: the second digit is the fault".
    private static void noTwoInOneCell() {
        same("4: the second in the first one's cell", Checks.faultOf("34,34"), 4);
        same("4: its first digit is none", Checks.faultOf("34,3"), 4);
        same("4: nor is the cell turned about", Checks.faultOf("34,43"), 5);
        same("4: the sixth in the first one's", Checks.faultOf("00,01,02,03,04,00;t22"), 16);
        same("4: the sixth in the fifth one's", Checks.faultOf("00,01,02,03,04,04;t22"), 16);
        same("4: the third in the second one's", Checks.faultOf("00,55,55"), 7);
        same("4: the last free column of a row", Checks.faultOf("00,01,02,03,04,05"), 17);
        PancakePort p = new PancakePort();
        Checks.write(p, "34,34;t22");
        same("5: two in one cell are no port", p.port(), Checks.STATE);
        p.blank();
        Checks.write(p, "35;t22");
        p.port();
        Checks.write(p, "35;t22");
        same("5: one where one of the other port lay", p.port(), 1);
    }

    // "one to six SLEEPERS (numbered from 0) with "," between".
    private static void oneToSixSleepers() {
        same("4: none", Checks.faultOf(";t22"), 0);
        same("4: none, and a comma", Checks.faultOf(",00;t22"), 0);
        same("4: two commas", Checks.faultOf("00,,01;t22"), 3);
        same("4: a comma behind the last", Checks.faultOf("00,;t22"), 3);
        same("4: no comma", Checks.faultOf("0001;t22"), 2);
        StringBuilder text = new StringBuilder("30");
        for (int sleepers = 1; sleepers <= 6; sleepers++) {
            PancakePort p = new PancakePort();
            Checks.write(p, text + ";h22");
            same("5: port of " + sleepers, p.port(), sleepers);
            same("26: there are " + sleepers, p.count(0), sleepers);
            same("6: the last one's number", p.sleeper(sleepers - 1, 0), 18 + sleepers - 1);
            same("6: none behind him", p.sleeper(sleepers, 0), Checks.UNKNOWN);
            text.append(",3").append(sleepers);
        }
        same("4: a comma behind the sixth", Checks.faultOf("30,31,32,33,34,35,"), 17);
        same("4: seven", Checks.faultOf("30,31,32,33,34,35,00;t22"), 17);
        PancakePort p = new PancakePort();
        Checks.write(p, "30,31,32,33,34,35,00;t22");
        same("5: seven are no port", p.port(), Checks.STATE);
    }

    // "then ";" and one to four TOSSERS (numbered from 0) with "," between, each a letter, the KIND, and two digits".
    private static void oneToFourTossers() {
        same("4: none yet", Checks.faultOf("00;"), 3);
        same("4: a comma ahead", Checks.faultOf("00;,t22"), 3);
        same("4: two commas", Checks.faultOf("00;t22,,t22"), 7);
        same("4: no comma", Checks.faultOf("00;t22t22"), 6);
        same("4: a second semicolon", Checks.faultOf("00;t22;"), 6);
        same("4: a second semicolon at once", Checks.faultOf("00;;t22"), 3);
        same("4: a sleeper behind", Checks.faultOf("00;t22,01"), 7);
        StringBuilder text = new StringBuilder("00;t22");
        for (int tossers = 1; tossers <= 4; tossers++) {
            PancakePort p = new PancakePort();
            Checks.write(p, text.toString());
            same("5: the sleepers are told, not " + tossers, p.port(), 1);
            same("26: there are " + tossers, p.count(1), tossers);
            same("7: the last one's number", p.tosser(tossers - 1, 1), tossers == 1 ? 2 : tossers - 1);
            same("7: none behind him", p.tosser(tossers, 0), Checks.UNKNOWN);
            text.append(",w").append(tossers).append("0");
        }
        same("4: a comma behind the fourth", Checks.faultOf("00;t22,t22,t22,t22,"), 18);
        same("4: five", Checks.faultOf("00;t22,t22,t22,t22,t22"), 18);
        PancakePort p = new PancakePort();
        Checks.write(p, "00;t22,t22,t22,t22,t22");
        same("5: five are no port", p.port(), Checks.STATE);
    }

    // "the first letter"; "how many letters it has, if there is none".
    private static void faultIsTheFirst() {
        same("4: an empty page", new PancakePort().fault(), 0);
        same("4: of two, the first", Checks.faultOf("06;x"), 1);
        same("4: what comes behind a fault doesn't mend it", Checks.faultOf("x00;t22"), 0);
        same("4: at the page's last place", Checks.faultOf("00,01,02,03,04,05;t22,t22,t22,t22x"), 33);
        same("4: three letters too many", Checks.faultOf("00,01,02,03,04,05;t22,t22,t22,t22xyz"), 33);
        for (int length = 0; length <= LARGEST.length(); length++) {
            same("4: no fault in " + length + " letters", Checks.faultOf(LARGEST.substring(0, length)), length);
        }
        StringBuilder ones = new StringBuilder();
        for (int length = 0; length <= 36; length++) {
            same("4: of " + length + " ones", Checks.faultOf(ones.toString()), Math.min(length, 2));
            ones.append('1');
        }
    }

    private static void faultTellsOnly() {
        PancakePort p = Checks.portOf("00,33;w22,h13");
        Checks.write(p, "55,44;t00x");
        long before = p.digest();
        same("4: once", p.fault(), 9);
        same("4: and again", p.fault(), 9);
        same("4: the port stays as it is, and the page", p.digest(), before);
        same("4: the port's sleeper", p.sleeper(1, 0), 21);
        same("4: the port's wrist", p.tosser(1, 2), 3);
    }

    // "STATE: it is none": a text that begins as a port does is no port before its last digit.
    private static void everyBeginningIsNoPort() {
        for (int length = 0; length <= LARGEST.length(); length++) {
            PancakePort p = new PancakePort();
            Checks.write(p, LARGEST.substring(0, length));
            // A whole port ends behind each tosser: at 21, 25, 29 and 33 letters.
            boolean whole = length >= 21 && length % 4 == 1;
            same("5: port of " + length + " letters", p.port(), whole ? 6 : Checks.STATE);
            same("5: the page behind it", p.count(10), whole ? 0 : length);
            same("5: how often a port was read", p.count(11), whole ? 1 : 0);
        }
    }

    private static void smallestAndLargest() {
        PancakePort small = Checks.portOf(SMALLEST);
        same("5: one sleeper", small.count(0), 1);
        same("5: one tosser", small.count(1), 1);
        same("6: in the first cell", small.sleeper(0, 0), 0);
        same("7: two northward", small.tosser(0, 1), 0);
        same("7: two westward", small.tosser(0, 2), 0);
        PancakePort large = Checks.portOf(LARGEST);
        same("5: six sleepers", large.count(0), 6);
        same("5: four tossers", large.count(1), 4);
        for (int sleeper = 0; sleeper < 6; sleeper++) {
            same("6: cell of " + sleeper, large.sleeper(sleeper, 0), 35 - sleeper);
        }
        int[] kinds = {0, 1, 2, 4};
        for (int tosser = 0; tosser < 4; tosser++) {
            same("7: kind of " + tosser, large.tosser(tosser, 0), kinds[tosser]);
            same("7: two southward", large.tosser(tosser, 1), 4);
            same("7: two eastward", large.tosser(tosser, 2), 4);
        }
        same("6: row and column: 6 times the row", Checks.portOf("50;t00").sleeper(0, 0), 30);
        same("6: row and column: the column", Checks.portOf("05;t00").sleeper(0, 0), 5);
    }

    // "another one is gone, with all that was".
    private static void anotherPortIsGone() {
        PancakePort p = Checks.portOf(LARGEST);
        p.toss(0, 21);
        p.toss(1, 21);
        p.morning();
        p.toss(2, 14);
        p.wind(-1);
        p.stir(30);
        p.train(3, 0, 0);
        for (int time = 0; time < 6; time++) {
            p.see(3, 0, 0);
        }
        p.image();
        Checks.write(p, SMALLEST);
        same("5: a small one", p.port(), 1);
        int[] due = {1, 1, 0, 60, 1, 0, 0, 0, 0, 0, 0, 2};
        for (int what = 0; what <= 11; what++) {
            same("5: count(" + what + ") of the small one", p.count(what), due[what]);
        }
        same("5: no image of it", p.restore(), Checks.STATE);
        Checks.write(p, LARGEST);
        same("5: the large one again", p.port(), 6);
        PancakePort fresh = Checks.portOf(LARGEST);
        for (int sleeper = 0; sleeper < 6; sleeper++) {
            for (int what = 0; what <= 4; what++) {
                same("5: sleeper " + sleeper + " anew, " + what, p.sleeper(sleeper, what), fresh.sleeper(sleeper, what));
            }
        }
        for (int tosser = 0; tosser < 4; tosser++) {
            for (int what = 0; what <= 8; what++) {
                same("5: tosser " + tosser + " anew, " + what, p.tosser(tosser, what), fresh.tosser(tosser, what));
            }
        }
        same("5: nothing is seen", p.forget(), 0);
        same("5: read three times", p.count(11), 3);
    }

    // "Refusals ... change nothing".
    private static void refusedPortChangesNothing() {
        PancakePort p = Checks.portOf("00,33;w22,h13");
        p.toss(0, 0);
        p.image();
        p.morning();
        Checks.write(p, "55,44;t0");
        Checks.refused("5: not whole yet", p, p::port, Checks.STATE);
        same("5: the letters are still there", p.letter('0'), 9);
        p.letter('9');
        Checks.refused("5: one letter too many", p, p::port, Checks.STATE);
        same("5: the old one's morning", p.count(5), 1);
        same("5: the old one's image", p.restore(), 0);
        same("5: he is covered", p.sleeper(0, 1), 1);
        same("5: the page", p.blank(), 10);
        Checks.refused("5: an empty page", p, p::port, Checks.STATE);
    }
}
