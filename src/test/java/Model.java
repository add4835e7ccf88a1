import java.util.ArrayList;
import java.util.Arrays;
import java.util.List;
import java.util.regex.Pattern;

/** The document told a second time, as slowly as it likes: what PancakePort is compared with. */
final class Model {
    private static final String[] SPREADS = {" x xxx x ", "x x x x x", "xxxxxxxxx", "   xxx   ", "xxxx xxxx"};
    private static final int[] BATTER = {3, 2, 5, 1, 4};

    private String page = "";
    private int portsRead = 0;
    private World now = new World();
    private World kept = null;

    private static final class World {
        List<int[]> sleepers = new ArrayList<>(); // cell, covered, breakfasts, cold
        List<int[]> tossers = new ArrayList<>(); // kind, south, east, thrown
        List<int[]> seen = new ArrayList<>(); // tosser, aim, column
        int wind = 0;
        int batter = 0;
        int mornings = 0;
        int tosses = 0;

        World copy() {
            World w = new World();
            sleepers.forEach(s -> w.sleepers.add(s.clone()));
            tossers.forEach(t -> w.tossers.add(t.clone()));
            seen.forEach(s -> w.seen.add(s.clone()));
            w.wind = wind;
            w.batter = batter;
            w.mornings = mornings;
            w.tosses = tosses;
            return w;
        }
    }

    private boolean noPort() {
        return now.sleepers.isEmpty();
    }

    private boolean noSleeper(int s) {
        return s < 0 || s >= now.sleepers.size();
    }

    private boolean noTosser(int t) {
        return t < 0 || t >= now.tossers.size();
    }

    private static boolean noCell(int c) {
        return c < 0 || c > 35;
    }

    int letter(int code) {
        if (code < 1 || code > 126) {
            return Checks.OUTSIDE;
        }
        if (page.length() == 36) {
            return Checks.FULL;
        }
        page += (char) code;
        return page.length();
    }

    int blank() {
        int had = page.length();
        page = "";
        return had;
    }

    private static boolean isPort(String text) {
        if (!Pattern.matches("[0-5]{2}(,[0-5]{2}){0,5};[tlwhm][0-4]{2}(,[tlwhm][0-4]{2}){0,3}", text)) {
            return false;
        }
        String[] places = text.substring(0, text.indexOf(';')).split(",");
        return Arrays.stream(places).distinct().count() == places.length;
    }

    /** Some port begins so: one of these endings makes it a port, if any does. */
    private static boolean begins(String text) {
        for (String ending : new String[] {"", "2", "22", "t22", ";t22"}) {
            if (isPort(text + ending)) {
                return true;
            }
        }
        for (int cell = 0; cell < 36; cell++) {
            String column = cell % 6 + ";t22";
            if (isPort(text + column) || isPort(text + cell / 6 + column)) {
                return true;
            }
        }
        return false;
    }

    int fault() {
        for (int length = 1; length <= page.length(); length++) {
            if (!begins(page.substring(0, length))) {
                return length - 1;
            }
        }
        return page.length();
    }

    int port() {
        if (!isPort(page)) {
            return Checks.STATE;
        }
        now = new World();
        kept = null;
        String[] halves = page.split(";");
        for (String place : halves[0].split(",")) {
            now.sleepers.add(new int[] {Integer.parseInt(place, 6), 0, 0, 0});
        }
        for (String told : halves[1].split(",")) {
            now.tossers.add(new int[] {"tlwhm".indexOf(told.charAt(0)), told.charAt(1) - '0', told.charAt(2) - '0', 0});
        }
        now.batter = 60;
        page = "";
        portsRead++;
        return now.sleepers.size();
    }

    private int landing(int tosser, int cell, int wind) {
        int[] t = now.tossers.get(tosser);
        int row = cell / 6 + t[1] - 2;
        int column = cell % 6 + t[2] - 2 + wind;
        return row < 0 || row > 5 || column < 0 || column > 5 ? -1 : 6 * row + column;
    }

    private List<Integer> coveredCells(int tosser, int cell, int wind) {
        List<Integer> cells = new ArrayList<>();
        int landed = landing(tosser, cell, wind);
        String spread = SPREADS[now.tossers.get(tosser)[0]];
        for (int i = 0; i < 9 && landed >= 0; i++) {
            int row = landed / 6 + i / 3 - 1;
            int column = landed % 6 + i % 3 - 1;
            if (spread.charAt(i) == 'x' && row >= 0 && row <= 5 && column >= 0 && column <= 5) {
                cells.add(6 * row + column);
            }
        }
        return cells;
    }

    private int crowd(int tosser, int cell, int wind) {
        int bits = 0;
        List<Integer> cells = coveredCells(tosser, cell, wind);
        for (int s = 0; s < now.sleepers.size(); s++) {
            bits |= cells.contains(now.sleepers.get(s)[0]) ? 1 << s : 0;
        }
        return bits;
    }

    private int coveredBits() {
        int bits = 0;
        for (int s = 0; s < now.sleepers.size(); s++) {
            bits |= now.sleepers.get(s)[1] << s;
        }
        return bits;
    }

    private boolean takenByAnother(int cell, int sleeper) {
        for (int s = 0; s < now.sleepers.size(); s++) {
            if (s != sleeper && now.sleepers.get(s)[0] == cell) {
                return true;
            }
        }
        return false;
    }

    private int lie(int sleeper) {
        int[] tosses = new int[36];
        for (int t = 0; t < now.tossers.size(); t++) {
            for (int cell = 0; cell < 36; cell++) {
                coveredCells(t, cell, now.wind).forEach(covered -> tosses[covered]++);
            }
        }
        int best = -1;
        for (int place = 35; place >= 0; place--) {
            if (!takenByAnother(place, sleeper) && (best < 0 || tosses[place] >= tosses[best])) {
                best = place;
            }
        }
        return best;
    }

    int sleeper(int sleeper, int what) {
        if (noSleeper(sleeper)) {
            return Checks.UNKNOWN;
        }
        if (what < 0 || what > 4) {
            return Checks.OUTSIDE;
        }
        return what == 4 ? lie(sleeper) : now.sleepers.get(sleeper)[what];
    }

    private int fresh(int tosser, int cell) {
        return Integer.bitCount(crowd(tosser, cell, now.wind) & ~coveredBits());
    }

    private int most(int tosser) {
        for (int many = 6; many > 0; many--) {
            for (int cell = 0; cell < 36; cell++) {
                if (fresh(tosser, cell) == many) {
                    return cell;
                }
            }
        }
        return 0;
    }

    private static int column(int aim, int turn) {
        int column = aim + turn - 2;
        return column < 0 || column > 5 ? -1 : column;
    }

    private int turns(int tosser) {
        int bits = 31;
        for (int[] s : now.seen) {
            for (int turn = 0; turn < 5; turn++) {
                if (s[0] == tosser && column(s[1], turn) != s[2]) {
                    bits &= ~(1 << turn);
                }
            }
        }
        return bits;
    }

    private int aim(int tosser) {
        int turns = turns(tosser);
        int best = -1;
        int fewest = 6;
        for (int aim = 0; aim < 6 && turns != 0; aim++) {
            int[] left = new int[7];
            for (int turn = 0; turn < 5; turn++) {
                left[column(aim, turn) + 1] += turns >> turn & 1;
            }
            int worst = Arrays.stream(left).max().getAsInt();
            if (worst < fewest) {
                fewest = worst;
                best = aim;
            }
        }
        return best;
    }

    int tosser(int tosser, int what) {
        if (noTosser(tosser)) {
            return Checks.UNKNOWN;
        }
        int[] t = now.tossers.get(tosser);
        switch (what) {
            case 0: case 1: case 2: return t[what];
            case 3: return BATTER[t[0]];
            case 4: return most(tosser);
            case 5: return fresh(tosser, most(tosser));
            case 6: return turns(tosser);
            case 7: return aim(tosser);
            case 8: return t[3];
            default: return Checks.OUTSIDE;
        }
    }

    int as(int tosser, int kind) {
        if (noTosser(tosser)) {
            return Checks.UNKNOWN;
        }
        if (kind < 0 || kind > 4) {
            return Checks.OUTSIDE;
        }
        int own = now.tossers.get(tosser)[0];
        return kind == 0 || kind == own || kind == 2 && own == 4 ? tosser : -1;
    }

    int lands(int tosser, int cell) {
        return noTosser(tosser) || noCell(cell) ? Checks.UNKNOWN : landing(tosser, cell, now.wind);
    }

    int covers(int tosser, int cell) {
        return noTosser(tosser) || noCell(cell) ? Checks.UNKNOWN : crowd(tosser, cell, now.wind);
    }

    int toss(int tosser, int cell) {
        if (noTosser(tosser) || noCell(cell)) {
            return Checks.UNKNOWN;
        }
        int[] t = now.tossers.get(tosser);
        if (BATTER[t[0]] > now.batter) {
            return Checks.STATE;
        }
        int fresh = fresh(tosser, cell);
        int crowd = crowd(tosser, cell, now.wind);
        for (int s = 0; s < now.sleepers.size(); s++) {
            now.sleepers.get(s)[1] |= crowd >> s & 1;
        }
        now.batter -= BATTER[t[0]];
        now.tosses++;
        t[3]++;
        return fresh;
    }

    int wind(int wind) {
        if (wind < -1 || wind > 1) {
            return Checks.OUTSIDE;
        }
        if (noPort()) {
            return Checks.STATE;
        }
        int was = now.wind;
        now.wind = wind;
        return was + 1;
    }

    int morning() {
        if (noPort()) {
            return Checks.STATE;
        }
        int many = 0;
        for (int[] s : now.sleepers) {
            many += s[1];
            s[3 - s[1]]++;
            s[1] = 0;
        }
        now.mornings++;
        return many;
    }

    int move(int sleeper, int cell) {
        if (noSleeper(sleeper) || noCell(cell)) {
            return Checks.UNKNOWN;
        }
        if (takenByAnother(cell, sleeper)) {
            return Checks.STATE;
        }
        int[] s = now.sleepers.get(sleeper);
        int was = s[0];
        s[0] = cell;
        s[1] = 0;
        return was;
    }

    int train(int tosser, int south, int east) {
        if (noTosser(tosser)) {
            return Checks.UNKNOWN;
        }
        if (south < 0 || south > 4 || east < 0 || east > 4) {
            return Checks.OUTSIDE;
        }
        int[] t = now.tossers.get(tosser);
        int was = t[2];
        t[1] = south;
        t[2] = east;
        return was;
    }

    int stir(int much) {
        if (much < 1 || much > 60) {
            return Checks.OUTSIDE;
        }
        if (noPort()) {
            return Checks.STATE;
        }
        if (now.batter + much > 99) {
            return Checks.FULL;
        }
        return now.batter += much;
    }

    private int batterOf(List<Integer> row) {
        return row.stream().mapToInt(toss -> BATTER[now.tossers.get(toss / 36)[0]]).sum();
    }

    private boolean isBetter(List<Integer> a, List<Integer> b) {
        if (b == null || batterOf(a) != batterOf(b)) {
            return b == null || batterOf(a) < batterOf(b);
        }
        if (a.size() != b.size()) {
            return a.size() < b.size();
        }
        for (int i = 0; i < a.size(); i++) {
            if (!a.get(i).equals(b.get(i))) {
                return a.get(i) < b.get(i);
            }
        }
        return false;
    }

    /** The best rows for each crowd, of the tosses from the last down to the first. */
    private List<Integer> row(int need) {
        List<List<Integer>> best = new ArrayList<>();
        for (int crowd = 0; crowd < 64; crowd++) {
            best.add(crowd == 0 ? new ArrayList<>() : null);
        }
        for (int toss = 36 * now.tossers.size() - 1; toss >= 0; toss--) {
            int cover = crowd(toss / 36, toss % 36, now.wind);
            List<List<Integer>> next = new ArrayList<>(best);
            for (int crowd = 0; crowd < 64; crowd++) {
                List<Integer> rest = best.get(crowd & ~cover);
                if ((crowd & cover) != 0 && rest != null) {
                    List<Integer> row = new ArrayList<>();
                    row.add(toss);
                    row.addAll(rest);
                    if (isBetter(row, next.get(crowd))) {
                        next.set(crowd, row);
                    }
                }
            }
            best = next;
        }
        return best.get(need);
    }

    private int everybody() {
        return (1 << now.sleepers.size()) - 1;
    }

    private int tell(List<Integer> row, int what) {
        if (row == null) {
            return -1;
        }
        if (what < 2) {
            return what == 0 ? batterOf(row) : row.size();
        }
        return what - 10 < row.size() ? row.get(what - 10) : -1;
    }

    int all(int what) {
        if (what < 0 || what > 15 || what > 1 && what < 10) {
            return Checks.OUTSIDE;
        }
        return noPort() ? Checks.STATE : tell(row(everybody() & ~coveredBits()), what);
    }

    int nights() {
        if (noPort()) {
            return Checks.STATE;
        }
        List<Integer> row = row(everybody());
        return row == null ? -1 : now.batter / batterOf(row);
    }

    int odds(int sleeper, int tosser, int cell) {
        if (noSleeper(sleeper) || noTosser(tosser) || noCell(cell)) {
            return Checks.UNKNOWN;
        }
        int bit = 1 << sleeper;
        return (crowd(tosser, cell, -1) & bit) / bit + (crowd(tosser, cell, 0) & bit) / bit + (crowd(tosser, cell, 1) & bit) / bit;
    }

    int who(int cell) {
        if (noPort() || noCell(cell)) {
            return Checks.UNKNOWN;
        }
        int bits = 0;
        for (int t = 0; t < now.tossers.size(); t++) {
            int row = cell / 6 - now.tossers.get(t)[1] + 2;
            int column = cell % 6 - now.tossers.get(t)[2] + 2 - now.wind;
            bits |= row >= 0 && row < 6 && column >= 0 && column < 6 ? 1 << t : 0;
        }
        return bits;
    }

    int see(int tosser, int aim, int column) {
        if (noTosser(tosser)) {
            return Checks.UNKNOWN;
        }
        if (aim < 0 || aim > 5 || column < -1 || column > 5) {
            return Checks.OUTSIDE;
        }
        if (now.seen.size() == 6) {
            return Checks.FULL;
        }
        now.seen.add(new int[] {tosser, aim, column});
        return now.seen.size();
    }

    int forget() {
        int was = now.seen.size();
        now.seen.clear();
        return was;
    }

    int seasons(int times, int seed, int what) {
        if (times < 1 || times > 60 || seed < 0 || what < 0 || what > 2) {
            return Checks.OUTSIDE;
        }
        if (noPort()) {
            return Checks.STATE;
        }
        long[] drawn = {seed};
        int together = 0;
        int ever = 0;
        for (int time = 0; time < times; time++) {
            int wind = draw(drawn, 3) - 1;
            int tosser = draw(drawn, now.tossers.size());
            int crowd = crowd(tosser, draw(drawn, 36), wind);
            together += Integer.bitCount(crowd);
            ever |= crowd;
        }
        return what == 0 ? together : what == 1 ? Integer.bitCount(ever) : (int) drawn[0];
    }

    private static int draw(long[] seed, int of) {
        seed[0] = (1103515245L * seed[0] + 12345L) % (1L << 31);
        return (int) (seed[0] / 65536 % of);
    }

    int image() {
        if (noPort()) {
            return Checks.STATE;
        }
        kept = now.copy();
        return now.mornings;
    }

    int restore() {
        if (kept == null) {
            return Checks.STATE;
        }
        now = kept.copy();
        return now.mornings;
    }

    private int sum(int what) {
        return now.sleepers.stream().mapToInt(s -> s[what]).sum();
    }

    int count(int what) {
        switch (what) {
            case 0: return now.sleepers.size();
            case 1: return now.tossers.size();
            case 2: return sum(1);
            case 3: return now.batter;
            case 4: return now.wind + 1;
            case 5: return now.mornings;
            case 6: return sum(2);
            case 7: return sum(3);
            case 8: return now.tosses;
            case 9: return now.seen.size();
            case 10: return page.length();
            case 11: return portsRead;
            default: return Checks.OUTSIDE;
        }
    }

    long digest() {
        List<Integer> told = new ArrayList<>();
        for (int s = 0; s < now.sleepers.size(); s++) {
            for (int what = 0; what < 5; what++) {
                told.add(sleeper(s, what));
            }
        }
        for (int t = 0; t < now.tossers.size(); t++) {
            for (int what = 0; what < 9; what++) {
                told.add(tosser(t, what));
            }
            told.add(lands(t, 14));
            told.add(covers(t, 14));
        }
        if (!noPort()) {
            for (int what : new int[] {0, 1, 10, 11, 12, 13, 14, 15}) {
                told.add(all(what));
            }
            told.addAll(List.of(nights(), who(0), who(21)));
        }
        page.chars().forEach(told::add);
        for (int what = 0; what < 12; what++) {
            told.add(count(what));
        }
        long h = 1217;
        for (int number : told) {
            h = 31 * h + number;
        }
        return h;
    }
}
