import java.math.BigInteger;
import java.util.ArrayDeque;
import java.util.ArrayList;
import java.util.HashMap;
import java.util.List;
import java.util.Map;
import java.util.Random;
import java.util.regex.Matcher;
import java.util.regex.Pattern;

/** Long random runs: each answer is compared with that of a second program, written as the document's words go. */
public final class DoorVoiceAgainstModel {
    private static final int NONE = -6, UNKNOWN = -1, OUTSIDE = -2, STATE = -3, FULL = -4, NO = -5;
    private static final long LOST = -1000000000000000000L;
    private static final int RUNS = 2000;
    /** What an object answers behind its 512th call is free; a step makes 8 calls at most. */
    private static final int CALLS = 512;
    private static final int CALLS_A_STEP = 8;

    public static void main(String[] args) {
        int wrong = 0;
        for (int run = 0; run < RUNS && wrong < 10; run++) {
            if (!new Run(run).isAsDue()) wrong++;
        }
        System.out.println(wrong == 0 ? RUNS + " runs are as the model's" : wrong + " runs are not as the model's");
        if (wrong != 0) System.exit(1);
    }

    /** One object and one model, told the same. */
    private static final class Run {
        private final int number;
        private final Random draw;
        private final DoorVoice x = new DoorVoice();
        private final Model model = new Model();
        private final List<String> calls = new ArrayList<>();
        /** How much of the run goes into wrong inputs. */
        private final int wrongInputs;

        Run(int number) {
            this.number = number;
            draw = new Random(7919L * number + 17);
            wrongInputs = number % 3 == 0 ? 15 : 200;
        }

        boolean isAsDue() {
            while (calls.size() + CALLS_A_STEP <= CALLS) {
                if (!stepOnce()) return false;
            }
            return true;
        }

        private boolean same(String call, long got, long want) {
            calls.add(call + " = " + got);
            if (got == want) return true;
            System.out.println("run " + number + ", call " + calls.size() + ": " + call + " answered " + got + ", model's is " + want);
            for (int i = Math.max(0, calls.size() - 80); i < calls.size(); i++) System.out.println("    " + calls.get(i));
            return false;
        }

        /** A number from least to most, or now and then one beside that. */
        private int some(int least, int most) {
            if (draw.nextInt(wrongInputs) == 0) {
                int[] beside = {least - 1, most + 1, Integer.MIN_VALUE, Integer.MAX_VALUE, least - 7, most + 9};
                return beside[draw.nextInt(beside.length)];
            }
            return least + draw.nextInt(most - least + 1);
        }

        private boolean stepOnce() {
            int kind = draw.nextInt(56);
            if (kind < 12) return change(kind);
            if (kind < 22) return write();
            if (kind < 34) return days(kind - 22);
            if (kind < 42) return hearing(kind - 34);
            return rest(kind - 42);
        }

        private boolean change(int kind) {
            if (kind < 3) {
                int h = some(0, 11);
                boolean open = draw.nextBoolean();
                boolean deaf = draw.nextInt(5) == 0;
                int facts = draw.nextInt(3) == 0 ? some(0, 255) : 0;
                return same("house(" + h + ", " + open + ", " + deaf + ", " + facts + ")", x.house(h, open, deaf, facts), model.house(h, open, deaf, facts));
            }
            if (kind < 5) {
                int w = some(0, 10);
                int thick = draw.nextInt(2) == 0 ? some(0, 9) : some(0, 2);
                return same("wall(" + w + ", " + thick + ")", x.wall(w, thick), model.wall(w, thick));
            }
            if (kind < 9) {
                int which = some(0, 2);
                int v = which == 0 ? (draw.nextInt(4) == 0 ? some(1, 40) : some(1, 9)) : which == 1 ? some(-3, 3) : some(0, 11);
                return same("set(" + which + ", " + v + ")", x.set(which, v), model.set(which, v));
            }
            int l = some(0, 5);
            int h = some(0, 11);
            int plain = some(0, 255);
            int cipher = some(0, 255);
            int keys = some(0, 4095);
            return same("letter(" + l + ", " + h + ", " + plain + ", " + cipher + ", " + keys + ")",
                x.letter(l, h, plain, cipher, keys), model.letter(l, h, plain, cipher, keys));
        }

        private boolean write() {
            if (draw.nextInt(25) == 0) return same("wipe()", x.wipe(), model.wipe());
            String likely = "abcdefghijkl012345.....!";
            for (int n = draw.nextInt(4); n >= 0; n--) {
                int sign = draw.nextInt(80) == 0 ? some(33, 126) : likely.charAt(draw.nextInt(likely.length()));
                if (!same("say(" + sign + ")", x.say(sign), model.say(sign))) return false;
                if (sign != '!' || draw.nextInt(12) == 0) continue;
                int house = 'a' + draw.nextInt(12);
                if (!same("say(" + house + ")", x.say(house), model.say(house))) return false;
            }
            return true;
        }

        private boolean days(int kind) {
            int what;
            switch (kind) {
                case 0: case 1: return same("fault()", x.fault(), model.fault());
                case 2: case 3:
                    what = some(0, 1);
                    return same("judge(" + what + ")", x.judge(what), model.judge(what));
                case 4: case 5: case 6:
                    int done = model.done();
                    if (!same("done()", x.done(), done)) return false;
                    return done != NO || draw.nextInt(3) == 0 || same("wipe()", x.wipe(), model.wipe());
                case 7: case 8:
                    what = some(0, 11);
                    return same("knows(" + what + ")", x.knows(what), model.knows(what));
                case 9: case 10:
                    what = some(0, 3);
                    return same("behind(" + what + ")", x.behind(what), model.behind(what));
                default:
                    what = some(0, 7);
                    return same("who(" + what + ")", x.who(what), model.who(what));
            }
        }

        private boolean hearing(int kind) {
            int a = some(0, 11);
            int b = some(0, 11);
            int what = some(0, 1);
            int letter = some(0, 5);
            int letters = some(0, 63);
            switch (kind) {
                case 0: return same("loud(" + a + ", " + b + ")", x.loud(a, b), model.loud(a, b));
                case 1: return same("hears(" + a + ")", x.hears(a), model.hears(a));
                case 2: case 3: return same("best(" + letter + ", " + what + ")", x.best(letter, what), model.best(letter, what));
                case 4: case 5: return same("thirds(" + a + ", " + what + ")", x.thirds(a, what), model.thirds(a, what));
                default: return same("round(" + letters + ", " + what + ")", x.round(letters, what), model.round(letters, what));
            }
        }

        private boolean rest(int kind) {
            int h = some(0, 11);
            int what = some(0, 1);
            switch (kind) {
                case 0:
                    boolean heard = draw.nextBoolean();
                    return same("seen(" + h + ", " + heard + ")", x.seen(h, heard), model.seen(h, heard));
                case 1: return draw.nextInt(4) != 0 || same("forget()", x.forget(), model.forget());
                case 2: return same("at()", x.at(), model.at());
                case 3: case 4: return same("ask(" + what + ")", x.ask(what), model.ask(what));
                case 5: case 6:
                    int n = some(-1, 20);
                    return same("rumour(" + h + ", " + n + ")", x.rumour(h, n), model.rumour(h, n));
                case 7: case 8:
                    int t = some(0, 10);
                    int k = some(-1, 11);
                    return same("chance(" + h + ", " + t + ", " + k + ", " + what + ")", x.chance(h, t, k, what), model.chance(h, t, k, what));
                case 9: case 10:
                    int seed = some(0, 9999);
                    int m = some(1, 99);
                    int which = some(0, 2);
                    return same("year(" + seed + ", " + m + ", " + which + ")", x.year(seed, m, which), model.year(seed, m, which));
                case 11: return draw.nextInt(3) != 0 || same("image(" + what + ")", x.image(what), model.image(what));
                case 12: return draw.nextInt(4) != 0 || same("restore(" + what + ")", x.restore(what), model.restore(what));
                default:
                    int told = some(0, 160);
                    return same("told(" + told + ")", x.told(told), model.told(told));
            }
        }
    }

    private static final class House {
        boolean open;
        boolean deaf;
        boolean[] knows = new boolean[8];
    }

    private static final class Letter {
        int house;
        int plain;
        int cipher;
        int keys;
        boolean read;
    }

    private static final class World {
        House[] houses = new House[12];
        int[] walls = new int[11];
        Letter[] letters = new Letter[6];
        int voice = 4;
        int wind = 0;
        int he = 0;
        int day = 0;
        /** House and 100 if it heard. */
        List<Integer> sights = new ArrayList<>();

        World() {
            for (int h = 0; h < 12; h++) houses[h] = new House();
            for (int l = 0; l < 6; l++) letters[l] = new Letter();
        }

        World copy() {
            World w = new World();
            for (int h = 0; h < 12; h++) {
                w.houses[h].open = houses[h].open;
                w.houses[h].deaf = houses[h].deaf;
                w.houses[h].knows = houses[h].knows.clone();
            }
            w.walls = walls.clone();
            for (int l = 0; l < 6; l++) {
                w.letters[l].house = letters[l].house;
                w.letters[l].plain = letters[l].plain;
                w.letters[l].cipher = letters[l].cipher;
                w.letters[l].keys = letters[l].keys;
                w.letters[l].read = letters[l].read;
            }
            w.voice = voice;
            w.wind = wind;
            w.he = he;
            w.day = day;
            w.sights = new ArrayList<>(sights);
            return w;
        }

        int loudAt(int at, int house) {
            if (at == house) return voice;
            boolean east = at < house;
            int ahead = loudAt(at, east ? house - 1 : house + 1);
            int here = ahead - 1 - walls[east ? house - 1 : house] + (east ? wind : -wind);
            if (here > ahead) here = ahead;
            return here < 0 ? 0 : here;
        }

        boolean hearsAt(int at, int house) {
            if (houses[house].deaf) return false;
            int loud = loudAt(at, house);
            return loud >= 1 && houses[house].open || loud >= 3 || at == house;
        }

        /** The reason, or 0 and it is done. */
        int act(String act) {
            char sign = act.charAt(0);
            if (sign == '!') {
                House h = houses[act.charAt(1) - 'a'];
                h.open = !h.open;
            } else if (sign == '.') {
                if (day == 99) return 3;
                evening();
                day++;
            } else if (Character.isDigit(sign)) {
                Letter letter = letters[sign - '0'];
                if (letter.read) return 2;
                for (int h = 0; h < 12; h++) {
                    if (!hearsAt(he, h)) continue;
                    for (int f = 0; f < 8; f++) {
                        if ((letter.plain >> f) % 2 == 1) houses[h].knows[f] = true;
                        if ((letter.cipher >> f) % 2 == 1 && (letter.keys >> h) % 2 == 1) houses[h].knows[f] = true;
                    }
                }
                letter.read = true;
            } else {
                if (he == sign - 'a') return 1;
                he = sign - 'a';
            }
            return 0;
        }

        void evening() {
            boolean[][] knew = new boolean[12][];
            for (int h = 0; h < 12; h++) knew[h] = houses[h].knows.clone();
            for (int h = 0; h < 12; h++) {
                if (houses[h].deaf) continue;
                for (int f = 0; f < 8; f++) {
                    if (h > 0 && walls[h - 1] <= 4 && knew[h - 1][f]) houses[h].knows[f] = true;
                    if (h < 11 && walls[h] <= 4 && knew[h + 1][f]) houses[h].knows[f] = true;
                }
            }
        }

        int facts(int h) {
            int bits = 0;
            for (int f = 0; f < 8; f++) if (houses[h].knows[f]) bits += 1 << f;
            return bits;
        }

        int read() {
            int bits = 0;
            for (int l = 0; l < 6; l++) if (letters[l].read) bits += 1 << l;
            return bits;
        }

        int knowersOf(int fact) {
            int bits = 0;
            for (int h = 0; h < 12; h++) if (houses[h].knows[fact]) bits += 1 << h;
            return bits;
        }
    }

    private static final class Model {
        private World world = new World();
        private String pad = "";
        private final World[] images = new World[2];

        private static boolean is(int n, int least, int most) {
            return least <= n && n <= most;
        }

        int house(int house, boolean open, boolean deaf, int facts) {
            if (!is(house, 0, 11)) return UNKNOWN;
            if (!is(facts, 0, 255)) return OUTSIDE;
            int was = world.facts(house);
            world.houses[house].open = open;
            world.houses[house].deaf = deaf;
            for (int f = 0; f < 8; f++) world.houses[house].knows[f] = (facts >> f) % 2 == 1;
            return was;
        }

        int wall(int wall, int thick) {
            if (!is(wall, 0, 10)) return UNKNOWN;
            if (!is(thick, 0, 9)) return OUTSIDE;
            int was = world.walls[wall];
            world.walls[wall] = thick;
            return was;
        }

        int set(int which, int v) {
            int was;
            if (which == 0 && is(v, 1, 40)) {
                was = world.voice;
                world.voice = v;
            } else if (which == 1 && is(v, -3, 3)) {
                was = world.wind + 3;
                world.wind = v;
            } else if (which == 2 && is(v, 0, 11)) {
                was = world.he;
                world.he = v;
            } else {
                was = OUTSIDE;
            }
            return was;
        }

        int letter(int letter, int house, int plain, int cipher, int keys) {
            if (!is(letter, 0, 5)) return UNKNOWN;
            if (!is(house, 0, 11) || !is(plain, 0, 255) || !is(cipher, 0, 255) || !is(keys, 0, 4095)) return OUTSIDE;
            int was = world.letters[letter].house;
            Letter anew = new Letter();
            anew.house = house;
            anew.plain = plain;
            anew.cipher = cipher;
            anew.keys = keys;
            world.letters[letter] = anew;
            return was;
        }

        int say(int sign) {
            if (!is(sign, 33, 126)) return OUTSIDE;
            if (pad.length() == 60) return FULL;
            pad += (char) sign;
            return pad.length();
        }

        int wipe() {
            int were = pad.length();
            pad = "";
            return were;
        }

        int fault() {
            if (pad.matches("([a-l0-5.]|![a-l])*")) return NONE;
            Matcher m = Pattern.compile("^([a-l0-5.]|![a-l])*!?").matcher(pad);
            return m.find() ? m.end() : 0;
        }

        private List<String> acts() {
            List<String> acts = new ArrayList<>();
            Matcher m = Pattern.compile("!?.").matcher(pad);
            while (m.find()) acts.add(m.group());
            return acts;
        }

        int judge(int what) {
            if (!is(what, 0, 1)) return OUTSIDE;
            if (fault() != NONE) return NO;
            World w = world.copy();
            List<String> acts = acts();
            for (int i = 0; i < acts.size(); i++) {
                int why = w.act(acts.get(i));
                if (why != 0) return what == 0 ? i : why;
            }
            return NONE;
        }

        /** The street behind the days, or null. */
        private World worldBehind() {
            if (fault() != NONE || judge(0) != NONE) return null;
            World w = world.copy();
            for (String act : acts()) w.act(act);
            return w;
        }

        int done() {
            World w = worldBehind();
            if (w == null) return NO;
            int acts = acts().size();
            world = w;
            pad = "";
            return acts;
        }

        int knows(int house) {
            if (!is(house, 0, 11)) return UNKNOWN;
            World w = worldBehind();
            return w == null ? NO : w.facts(house);
        }

        int behind(int what) {
            if (!is(what, 0, 3)) return OUTSIDE;
            World w = worldBehind();
            if (w == null) return NO;
            if (what == 0) return w.he;
            if (what == 1) return w.day;
            if (what == 2) return w.read();
            World again = world.copy();
            List<String> acts = acts();
            for (int i = 0; i < acts.size(); i++) {
                char sign = acts.get(i).charAt(0);
                if (Character.isDigit(sign) && !again.hearsAt(again.he, again.letters[sign - '0'].house)) return i;
                again.act(acts.get(i));
            }
            return NONE;
        }

        int who(int fact) {
            return is(fact, 0, 7) ? world.knowersOf(fact) : UNKNOWN;
        }

        int loud(int at, int house) {
            return is(at, 0, 11) && is(house, 0, 11) ? world.loudAt(at, house) : UNKNOWN;
        }

        int hears(int at) {
            if (!is(at, 0, 11)) return UNKNOWN;
            int bits = 0;
            for (int h = 0; h < 12; h++) if (world.hearsAt(at, h)) bits += 1 << h;
            return bits;
        }

        int best(int letter, int what) {
            if (!is(letter, 0, 5)) return UNKNOWN;
            if (!is(what, 0, 1)) return OUTSIDE;
            int house = world.letters[letter].house;
            for (int others = 0; others < 12; others++) {
                for (int at = 0; at < 12; at++) {
                    if (!world.hearsAt(at, house)) continue;
                    int hear = 0;
                    for (int h = 0; h < 12; h++) if (h != house && world.hearsAt(at, h)) hear++;
                    if (hear == others) return what == 0 ? others : at;
                }
            }
            return NONE;
        }

        int thirds(int house, int what) {
            if (!is(house, 0, 11)) return UNKNOWN;
            if (!is(what, 0, 1)) return OUTSIDE;
            int count = 0;
            int first = Integer.MAX_VALUE;
            boolean[][] hear = new boolean[12][12];
            for (int a = 0; a < 12; a++) for (int h = 0; h < 12; h++) hear[a][h] = world.hearsAt(a, h);
            for (int code = 0; code < 12 * 12 * 12; code++) {
                int p = code / 144;
                int q = code / 12 % 12;
                int r = code % 12;
                if (p > q || q > r) continue;
                boolean alone = true;
                for (int h = 0; h < 12; h++) alone &= (hear[p][h] && hear[q][h] && hear[r][h]) == (h == house);
                if (!alone) continue;
                count++;
                first = Math.min(first, 10000 * p + 100 * q + r);
            }
            return what == 0 ? count : count == 0 ? NONE : first;
        }

        /** Every way is gone, step by step: where he is, which are read, how far west he was. */
        int round(int letters, int what) {
            if (!is(letters, 0, 63)) return UNKNOWN;
            if (!is(what, 0, 1)) return OUTSIDE;
            int[] canAt = new int[12];
            for (int at = 0; at < 12; at++) {
                for (int l = 0; l < 6; l++) if (world.hearsAt(at, world.letters[l].house)) canAt[at] += 1 << l;
            }
            Map<Integer, Integer> steps = new HashMap<>();
            ArrayDeque<Integer> queue = new ArrayDeque<>();
            int start = (world.he * 64 + canAt[world.he]) * 12 + world.he;
            steps.put(start, 0);
            queue.add(start);
            int fewest = Integer.MAX_VALUE;
            int west = Integer.MAX_VALUE;
            while (!queue.isEmpty()) {
                int state = queue.poll();
                int place = state / 768;
                int read = state / 12 % 64;
                int furthest = state % 12;
                int gone = steps.get(state);
                if ((read & letters) == letters && gone <= fewest) {
                    fewest = gone;
                    west = Math.min(west, furthest);
                }
                for (int next = place - 1; next <= place + 1; next += 2) {
                    if (next < 0 || next > 11) continue;
                    int then = (next * 64 + (read | canAt[next])) * 12 + Math.min(furthest, next);
                    if (steps.putIfAbsent(then, gone + 1) == null) queue.add(then);
                }
            }
            if (fewest == Integer.MAX_VALUE) return NONE;
            return what == 0 ? fewest : west;
        }

        int seen(int house, boolean heard) {
            if (!is(house, 0, 11)) return UNKNOWN;
            if (world.sights.size() == 8) return FULL;
            world.sights.add(heard ? house + 100 : house);
            return world.sights.size();
        }

        int forget() {
            int were = world.sights.size();
            world.sights.clear();
            return were;
        }

        private List<Integer> placesWith(int house, int heard) {
            List<Integer> places = new ArrayList<>();
            for (int at = 0; at < 12; at++) {
                boolean fits = true;
                for (int sight : world.sights) fits &= world.hearsAt(at, sight % 100) == (sight >= 100);
                if (heard >= 0) fits &= world.hearsAt(at, house) == (heard == 1);
                if (fits) places.add(at);
            }
            return places;
        }

        int at() {
            int bits = 0;
            for (int at : placesWith(0, -1)) bits += 1 << at;
            return bits;
        }

        int ask(int what) {
            if (!is(what, 0, 1)) return OUTSIDE;
            if (placesWith(0, -1).isEmpty()) return NONE;
            int least = 99;
            int whom = 0;
            for (int h = 11; h >= 0; h--) {
                int left = Math.max(placesWith(h, 0).size(), placesWith(h, 1).size());
                if (left > least) continue;
                least = left;
                whom = h;
            }
            return what == 0 ? whom : least;
        }

        int rumour(int house, int n) {
            if (!is(house, 0, 11)) return UNKNOWN;
            if (!is(n, -1, 20)) return OUTSIDE;
            World w = world.copy();
            for (int h = 0; h < 12; h++) w.houses[h].knows[0] = h == house;
            int last = 0;
            int want = 0;
            for (int evening = 1; evening <= 30; evening++) {
                if (evening - 1 == n) want = Integer.bitCount(w.knowersOf(0));
                int ahead = w.knowersOf(0);
                w.evening();
                if (w.knowersOf(0) != ahead) last = evening;
            }
            return n == -1 ? last : want;
        }

        /** Each way in which windows that matter can be open is looked at. */
        long chance(int at, int t, int k, int part) {
            if (!is(at, 0, 11)) return LOST + UNKNOWN;
            if (!is(t, 0, 10) || !is(k, -1, 11) || !is(part, 0, 1)) return LOST + OUTSIDE;
            List<Integer> unsure = new ArrayList<>();
            World w = world.copy();
            int sure = 0;
            for (int h = 0; h < 12; h++) {
                if (h == at) continue;
                w.houses[h].open = false;
                boolean shut = w.hearsAt(at, h);
                w.houses[h].open = true;
                if (shut) sure++;
                else if (w.hearsAt(at, h)) unsure.add(h);
            }
            BigInteger upper = BigInteger.ZERO;
            BigInteger lower = BigInteger.TEN.pow(unsure.size());
            for (int open = 0; open < 1 << unsure.size(); open++) {
                int many = Integer.bitCount(open);
                BigInteger weight = BigInteger.valueOf(t).pow(many).multiply(BigInteger.valueOf(10 - t).pow(unsure.size() - many));
                if (k == -1) upper = upper.add(weight.multiply(BigInteger.valueOf(sure + many)));
                else if (sure + many <= k) upper = upper.add(weight);
            }
            BigInteger divisor = upper.gcd(lower);
            return (part == 0 ? upper : lower).divide(divisor).longValueExact();
        }

        int year(int seed, int m, int what) {
            if (!is(seed, 0, 9999) || !is(m, 1, 99) || !is(what, 0, 2)) return OUTSIDE;
            World w = world.copy();
            long x = seed;
            for (int i = 0; i < m; i++) {
                x = (75 * x + 74) % 65537;
                long by8 = x / 8;
                char house = (char) ('a' + by8 % 12);
                char letter = (char) ('0' + by8 % 6);
                String[] acts = {".", "!" + house, "" + house, "" + house, "" + house, "" + letter, "" + letter, "" + letter};
                w.act(acts[(int) (x % 8)]);
            }
            int facts = 0;
            for (int h = 0; h < 12; h++) facts += Integer.bitCount(w.facts(h));
            return what == 0 ? facts : what == 1 ? w.he : Integer.bitCount(w.read());
        }

        int image(int n) {
            if (!is(n, 0, 1)) return OUTSIDE;
            images[n] = world.copy();
            return 1;
        }

        int restore(int n) {
            if (!is(n, 0, 1)) return OUTSIDE;
            if (images[n] == null) return STATE;
            world = images[n].copy();
            return 1;
        }

        int told(int what) {
            int open = 0;
            int deaf = 0;
            for (int h = 0; h < 12; h++) {
                if (world.houses[h].open) open += 1 << h;
                if (world.houses[h].deaf) deaf += 1 << h;
            }
            int[] all = {pad.length(), world.he, world.day, open, deaf, world.read(), world.sights.size(), world.voice, world.wind + 3};
            if (is(what, 0, 8)) return all[what];
            if (is(what, 20, 31)) return world.facts(what - 20);
            if (is(what, 40, 50)) return world.walls[what - 40];
            if (!is(what, 100, 159) || what % 10 > 3) return OUTSIDE;
            Letter l = world.letters[what / 10 - 10];
            return new int[] {l.house, l.plain, l.cipher, l.keys}[what % 10];
        }
    }
}
