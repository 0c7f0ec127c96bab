/** A street where letters are read out at the doors: who hears them, who knows what, where it was read. */
public final class DoorVoice {
    public static final int NONE = -6, UNKNOWN = -1, OUTSIDE = -2, STATE = -3, FULL = -4, NO = -5;
    public static final long LOST = -1000000000000000000L;

    private static final int HOUSES = 12;
    private static final int WALLS = 11;
    private static final int LETTERS = 6;
    private static final int FACTS = 8;
    private static final int ALL_FACTS = 255;
    private static final int ALL_HOUSES = 4095;
    private static final int ALL_LETTERS = 63;
    private static final int THICKEST = 9;
    private static final int LOUDEST = 40;
    private static final int STRONGEST_WIND = 3;
    private static final int PAD_SIGNS = 60;
    private static final int MOST_SIGHTS = 8;
    private static final int LAST_DAY = 99;
    private static final int MOST_EVENINGS = 20;
    private static final int TENTHS = 10;

    /** The kinds of ACTS. */
    private static final int GO = 0, READ = 1, WINDOW = 2, EVENING = 3;

    private final Street now = new Street();
    private final Street firstImage = new Street();
    private final Street secondImage = new Street();
    /** A street to try DAYS and YEARS on, so that the real one stays as it is. */
    private final Street trial = new Street();
    private final Pad pad = new Pad();
    private final Listener listener = new Listener();
    private final Chances chances = new Chances();
    private int keptImages = 0;

    public DoorVoice() {
    }

    // ---- 1 houses, letters, days

    public int house(int house, boolean open, boolean deaf, int facts) {
        if (!within(house, 0, HOUSES - 1)) return UNKNOWN;
        if (!within(facts, 0, ALL_FACTS)) return OUTSIDE;
        int was = now.facts[house];
        now.open = withBit(now.open, house, open);
        now.deaf = withBit(now.deaf, house, deaf);
        now.facts[house] = facts;
        return was;
    }

    public int wall(int wall, int thick) {
        if (!within(wall, 0, WALLS - 1)) return UNKNOWN;
        if (!within(thick, 0, THICKEST)) return OUTSIDE;
        int was = now.walls[wall];
        now.walls[wall] = thick;
        return was;
    }

    public int set(int which, int v) {
        if (which == 0) return setVoice(v);
        if (which == 1) return setWind(v);
        if (which == 2) return setPlace(v);
        return OUTSIDE;
    }

    private int setVoice(int v) {
        if (!within(v, 1, LOUDEST)) return OUTSIDE;
        int was = now.voice;
        now.voice = v;
        return was;
    }

    private int setWind(int v) {
        if (!within(v, -STRONGEST_WIND, STRONGEST_WIND)) return OUTSIDE;
        int was = now.wind;
        now.wind = v;
        return was + STRONGEST_WIND;
    }

    private int setPlace(int v) {
        if (!within(v, 0, HOUSES - 1)) return OUTSIDE;
        int was = now.place;
        now.place = v;
        return was;
    }

    public int letter(int letter, int house, int plain, int cipher, int keys) {
        if (!within(letter, 0, LETTERS - 1)) return UNKNOWN;
        if (!within(house, 0, HOUSES - 1) || !within(keys, 0, ALL_HOUSES)) return OUTSIDE;
        if (!within(plain, 0, ALL_FACTS) || !within(cipher, 0, ALL_FACTS)) return OUTSIDE;
        int was = now.forWhom[letter];
        now.forWhom[letter] = house;
        now.plain[letter] = plain;
        now.cipher[letter] = cipher;
        now.keys[letter] = keys;
        now.read = withBit(now.read, letter, false);
        return was;
    }

    public int say(int sign) {
        if (!within(sign, 33, 126)) return OUTSIDE;
        return pad.write(sign) ? pad.count : FULL;
    }

    public int wipe() {
        return pad.clean();
    }

    public int fault() {
        return pad.faultPlace();
    }

    // ---- 2 days

    public int judge(int what) {
        if (!within(what, 0, 1)) return OUTSIDE;
        if (pad.faultPlace() != NONE) return NO;
        pad.playsToTheEnd(now, trial);
        return what == 0 ? pad.stop : pad.why;
    }

    public int done() {
        if (!pad.playsToTheEnd(now, trial)) return NO;
        now.takeFrom(trial);
        pad.clean();
        return pad.acts;
    }

    public int knows(int house) {
        if (!within(house, 0, HOUSES - 1)) return UNKNOWN;
        if (!pad.playsToTheEnd(now, trial)) return NO;
        return trial.facts[house];
    }

    public int behind(int what) {
        if (!within(what, 0, 3)) return OUTSIDE;
        if (!pad.playsToTheEnd(now, trial)) return NO;
        if (what == 0) return trial.place;
        if (what == 1) return trial.day;
        if (what == 2) return trial.read;
        return pad.astray;
    }

    public int who(int fact) {
        if (!within(fact, 0, FACTS - 1)) return UNKNOWN;
        int knowers = 0;
        for (int h = 0; h < HOUSES; h++) {
            if (hasBit(now.facts[h], fact)) knowers |= 1 << h;
        }
        return knowers;
    }

    // ---- 3 who hears

    public int loud(int at, int house) {
        if (!within(at, 0, HOUSES - 1) || !within(house, 0, HOUSES - 1)) return UNKNOWN;
        return now.loudness(at, house);
    }

    public int hears(int at) {
        if (!within(at, 0, HOUSES - 1)) return UNKNOWN;
        return now.hearers(at, now.open);
    }

    public int best(int letter, int what) {
        if (!within(letter, 0, LETTERS - 1)) return UNKNOWN;
        if (!within(what, 0, 1)) return OUTSIDE;
        listener.listen(now);
        return listener.bestFor(now.forWhom[letter], what == 0);
    }

    public int thirds(int house, int what) {
        if (!within(house, 0, HOUSES - 1)) return UNKNOWN;
        if (!within(what, 0, 1)) return OUTSIDE;
        listener.listen(now);
        return listener.thirdsFor(house, what == 0);
    }

    public int round(int letters, int what) {
        if (!within(letters, 0, ALL_LETTERS)) return UNKNOWN;
        if (!within(what, 0, 1)) return OUTSIDE;
        listener.listen(now);
        return listener.leastWalk(now, letters, what == 0);
    }

    // ---- 4 where it was, rumours

    public int seen(int house, boolean heard) {
        if (!within(house, 0, HOUSES - 1)) return UNKNOWN;
        if (now.sights >= MOST_SIGHTS) return FULL;
        if (heard) now.heardBy |= 1 << house;
        else now.missedBy |= 1 << house;
        now.sights++;
        return now.sights;
    }

    public int forget() {
        int were = now.sights;
        now.sights = 0;
        now.heardBy = 0;
        now.missedBy = 0;
        return were;
    }

    public int at() {
        listener.listen(now);
        return listener.placesThatFit(now);
    }

    public int ask(int what) {
        if (!within(what, 0, 1)) return OUTSIDE;
        listener.listen(now);
        int places = listener.placesThatFit(now);
        return places == 0 ? NONE : listener.bestToAsk(places, what == 0);
    }

    public int rumour(int house, int n) {
        if (!within(house, 0, HOUSES - 1)) return UNKNOWN;
        if (!within(n, -1, MOST_EVENINGS)) return OUTSIDE;
        return n == -1 ? now.eveningsOfRumour(house) : Integer.bitCount(now.knowersOfRumour(house, n));
    }

    public long chance(int at, int t, int k, int part) {
        if (!within(at, 0, HOUSES - 1)) return LOST + UNKNOWN;
        if (!within(t, 0, TENTHS) || !within(k, -1, HOUSES - 1) || !within(part, 0, 1)) return LOST + OUTSIDE;
        chances.weigh(now, at);
        if (k == -1) chances.findMean(t);
        else chances.findAtMost(t, k);
        return part == 0 ? chances.upper : chances.lower;
    }

    public int year(int seed, int m, int what) {
        if (!within(seed, 0, 9999) || !within(m, 1, 99) || !within(what, 0, 2)) return OUTSIDE;
        trial.takeFrom(now);
        trial.drawYear(seed, m);
        if (what == 0) return trial.factsKnown();
        return what == 1 ? trial.place : Integer.bitCount(trial.read);
    }

    public int image(int n) {
        if (!within(n, 0, 1)) return OUTSIDE;
        imageNumbered(n).takeFrom(now);
        keptImages |= 1 << n;
        return 1;
    }

    public int restore(int n) {
        if (!within(n, 0, 1)) return OUTSIDE;
        if (!hasBit(keptImages, n)) return STATE;
        now.takeFrom(imageNumbered(n));
        return 1;
    }

    private Street imageNumbered(int n) {
        return n == 0 ? firstImage : secondImage;
    }

    public int told(int what) {
        if (within(what, 0, 8)) return toldOfAll(what);
        if (within(what, 20, 20 + HOUSES - 1)) return now.facts[what - 20];
        if (within(what, 40, 40 + WALLS - 1)) return now.walls[what - 40];
        if (within(what, 100, 100 + 10 * LETTERS - 1)) return toldOfLetter((what - 100) / 10, what % 10);
        return OUTSIDE;
    }

    private int toldOfAll(int what) {
        switch (what) {
            case 0: return pad.count;
            case 1: return now.place;
            case 2: return now.day;
            case 3: return now.open;
            case 4: return now.deaf;
            case 5: return now.read;
            case 6: return now.sights;
            case 7: return now.voice;
            default: return now.wind + STRONGEST_WIND;
        }
    }

    private int toldOfLetter(int letter, int part) {
        switch (part) {
            case 0: return now.forWhom[letter];
            case 1: return now.plain[letter];
            case 2: return now.cipher[letter];
            case 3: return now.keys[letter];
            default: return OUTSIDE;
        }
    }

    private static boolean within(int n, int least, int most) {
        return n >= least && n <= most;
    }

    private static boolean hasBit(int bits, int n) {
        return ((bits >> n) & 1) == 1;
    }

    private static int withBit(int bits, int n, boolean on) {
        return on ? bits | (1 << n) : bits & ~(1 << n);
    }

    /** All that an IMAGE keeps: the houses, walls and letters, where he stands, the day, the sights. */
    private static final class Street {
        private static final int HEARD_THROUGH_SHUT_WINDOW = 3;
        private static final int HEARD_THROUGH_OPEN_WINDOW = 1;
        private static final int THICKEST_TO_TELL_THROUGH = 4;

        final int[] facts = new int[HOUSES];
        final int[] walls = new int[WALLS];
        final int[] forWhom = new int[LETTERS];
        final int[] plain = new int[LETTERS];
        final int[] cipher = new int[LETTERS];
        final int[] keys = new int[LETTERS];
        int open = 0;
        int deaf = 0;
        int read = 0;
        int voice = 4;
        int wind = 0;
        int place = 0;
        int day = 0;
        /** Which houses heard it and which did not is all that the sights say, but a sight told twice counts twice. */
        int sights = 0;
        int heardBy = 0;
        int missedBy = 0;

        void takeFrom(Street other) {
            System.arraycopy(other.facts, 0, facts, 0, HOUSES);
            System.arraycopy(other.walls, 0, walls, 0, WALLS);
            System.arraycopy(other.forWhom, 0, forWhom, 0, LETTERS);
            System.arraycopy(other.plain, 0, plain, 0, LETTERS);
            System.arraycopy(other.cipher, 0, cipher, 0, LETTERS);
            System.arraycopy(other.keys, 0, keys, 0, LETTERS);
            open = other.open;
            deaf = other.deaf;
            read = other.read;
            voice = other.voice;
            wind = other.wind;
            place = other.place;
            day = other.day;
            sights = other.sights;
            heardBy = other.heardBy;
            missedBy = other.missedBy;
        }

        int loudness(int from, int house) {
            int left = voice;
            for (int h = from; h < house; h++) {
                int loss = walls[h] + 1 - wind;
                if (loss > 0) left -= loss;
            }
            for (int h = from; h > house; h--) {
                int loss = walls[h - 1] + 1 + wind;
                if (loss > 0) left -= loss;
            }
            return Math.max(0, left);
        }

        /** The HOUSE where one reads, who is heard there however low, and those at which he is so loud at least. */
        private int reached(int from, int least) {
            int bits = 1 << from;
            int left = voice;
            for (int h = from + 1; h < HOUSES; h++) {
                int loss = walls[h - 1] + 1 - wind;
                if (loss > 0) left -= loss;
                if (left >= least) bits |= 1 << h;
            }
            left = voice;
            for (int h = from - 1; h >= 0; h--) {
                int loss = walls[h] + 1 + wind;
                if (loss > 0) left -= loss;
                if (left >= least) bits |= 1 << h;
            }
            return bits;
        }

        /** HOUSES that HEAR it, if these windows are open and no others. */
        int hearers(int from, int openWindows) {
            int loudly = reached(from, HEARD_THROUGH_SHUT_WINDOW);
            int faintly = reached(from, HEARD_THROUGH_OPEN_WINDOW) & openWindows;
            return (loudly | faintly) & ~deaf;
        }

        /** Why an ACT can not be: 0 if it can. */
        int whyNot(int kind, int n) {
            if (kind == GO && place == n) return 1;
            if (kind == READ && hasBit(read, n)) return 2;
            if (kind == EVENING && day >= LAST_DAY) return 3;
            return 0;
        }

        void carryOut(int kind, int n) {
            if (kind == GO) place = n;
            else if (kind == READ) readOut(n);
            else if (kind == WINDOW) open ^= 1 << n;
            else passEvening();
        }

        private void readOut(int letter) {
            int bits = hearers(place, open);
            for (int h = 0; h < HOUSES; h++) {
                if (!hasBit(bits, h)) continue;
                facts[h] |= plain[letter];
                if (hasBit(keys[letter], h)) facts[h] |= cipher[letter];
            }
            read |= 1 << letter;
        }

        private void passEvening() {
            int westKnew = 0;
            for (int h = 0; h < HOUSES; h++) {
                int knew = facts[h];
                if (!hasBit(deaf, h)) {
                    if (tellsEastward(h - 1)) facts[h] |= westKnew;
                    if (tellsEastward(h)) facts[h] |= facts[h + 1];
                }
                westKnew = knew;
            }
            day++;
        }

        /** Whether this house and the one east of it tell each other; the row's ends have nobody to tell. */
        private boolean tellsEastward(int house) {
            return house >= 0 && house < WALLS && walls[house] <= THICKEST_TO_TELL_THROUGH;
        }

        int knowersOfRumour(int house, int evenings) {
            int knowers = 1 << house;
            for (int i = 0; i < evenings; i++) knowers = toldOnward(knowers);
            return knowers;
        }

        int eveningsOfRumour(int house) {
            int knowers = 1 << house;
            for (int evenings = 0; evenings < HOUSES; evenings++) {
                int more = toldOnward(knowers);
                if (more == knowers) return evenings;
                knowers = more;
            }
            return HOUSES;
        }

        private int toldOnward(int knowers) {
            int more = knowers;
            for (int h = 0; h < WALLS; h++) {
                if (!tellsEastward(h)) continue;
                if (hasBit(knowers, h) && !hasBit(deaf, h + 1)) more |= 1 << (h + 1);
                if (hasBit(knowers, h + 1) && !hasBit(deaf, h)) more |= 1 << h;
            }
            return more;
        }

        void drawYear(int seed, int m) {
            int x = seed;
            for (int i = 0; i < m; i++) {
                x = (75 * x + 74) % 65537;
                int kind = drawnKind(x % 8);
                int n = x / 8 % (kind == READ ? LETTERS : HOUSES);
                if (whyNot(kind, n) == 0) carryOut(kind, n);
            }
        }

        private static int drawnKind(int drawn) {
            if (drawn == 0) return EVENING;
            if (drawn == 1) return WINDOW;
            return drawn <= 4 ? GO : READ;
        }

        int factsKnown() {
            int sum = 0;
            for (int h = 0; h < HOUSES; h++) sum += Integer.bitCount(facts[h]);
            return sum;
        }
    }

    /** The text of DAYS, and what came of it when it was last played on a street. */
    private static final class Pad {
        private final int[] signs = new int[PAD_SIGNS];
        int count = 0;
        int acts = 0;
        int stop = NONE;
        int why = NONE;
        int astray = NONE;

        boolean write(int sign) {
            if (count >= PAD_SIGNS) return false;
            signs[count] = sign;
            count++;
            return true;
        }

        int clean() {
            int were = count;
            count = 0;
            return were;
        }

        int faultPlace() {
            boolean windowNamed = false;
            for (int i = 0; i < count; i++) {
                int kind = kindOf(signs[i]);
                if (kind == NONE || (windowNamed && kind != GO)) return i;
                windowNamed = kind == WINDOW;
            }
            return windowNamed ? count : NONE;
        }

        /** What a sign begins, where an ACT begins: NONE if none does so. */
        private static int kindOf(int sign) {
            if (sign >= 'a' && sign < 'a' + HOUSES) return GO;
            if (sign >= '0' && sign < '0' + LETTERS) return READ;
            if (sign == '!') return WINDOW;
            return sign == '.' ? EVENING : NONE;
        }

        /** The house or letter that a sign names; an evening names neither. */
        private static int numberOf(int sign) {
            int kind = kindOf(sign);
            if (kind == GO) return sign - 'a';
            return kind == READ ? sign - '0' : 0;
        }

        /** Plays the text on a street made like another one, if it has no FAULT, up to the first ACT that can not be. */
        boolean playsToTheEnd(Street from, Street street) {
            if (faultPlace() != NONE) return false;
            street.takeFrom(from);
            acts = 0;
            stop = NONE;
            why = NONE;
            astray = NONE;
            for (int i = 0; i < count && stop == NONE; i++) {
                int kind = kindOf(signs[i]);
                if (kind == WINDOW && i + 1 < count) i++;
                playAct(street, kind, numberOf(signs[i]));
            }
            return stop == NONE;
        }

        private void playAct(Street street, int kind, int n) {
            int reason = street.whyNot(kind, n);
            if (reason != 0) {
                stop = acts;
                why = reason;
                return;
            }
            if (kind == READ && astray == NONE && goesAstray(street, n)) astray = acts;
            street.carryOut(kind, n);
            acts++;
        }

        private static boolean goesAstray(Street street, int letter) {
            return !hasBit(street.hearers(street.place, street.open), street.forWhom[letter]);
        }
    }

    /** Who hears one who reads at each house, and so where each house hears one read, listened to once a call. */
    private static final class Listener {
        private final int[] hearersAt = new int[HOUSES];
        private final int[] placesHeardBy = new int[HOUSES];

        void listen(Street street) {
            for (int from = 0; from < HOUSES; from++) hearersAt[from] = street.hearers(from, street.open);
            for (int house = 0; house < HOUSES; house++) placesHeardBy[house] = placesFor(house);
        }

        private int placesFor(int house) {
            int places = 0;
            for (int from = 0; from < HOUSES; from++) {
                if (hasBit(hearersAt[from], house)) places |= 1 << from;
            }
            return places;
        }

        int bestFor(int house, boolean howMany) {
            int fewest = HOUSES;
            int where = NONE;
            for (int from = 0; from < HOUSES; from++) {
                int others = Integer.bitCount(hearersAt[from]) - 1;
                if (hasBit(hearersAt[from], house) && others < fewest) {
                    fewest = others;
                    where = from;
                }
            }
            return howMany && where != NONE ? fewest : where;
        }

        int thirdsFor(int house, boolean howMany) {
            int threes = 0;
            int first = NONE;
            for (int p = 0; p < HOUSES; p++) {
                for (int q = p; q < HOUSES; q++) {
                    for (int r = q; r < HOUSES; r++) {
                        if ((hearersAt[p] & hearersAt[q] & hearersAt[r]) != 1 << house) continue;
                        if (threes == 0) first = 10000 * p + 100 * q + r;
                        threes++;
                    }
                }
            }
            return howMany ? threes : first;
        }

        /** A way is as good as the stretch of houses that it goes over, the nearer end of which is gone to first. */
        int leastWalk(Street street, int letters, boolean howMany) {
            int fewest = NONE;
            int furthestWest = NONE;
            for (int west = 0; west <= street.place; west++) {
                for (int east = street.place; east < HOUSES; east++) {
                    int westward = street.place - west;
                    int eastward = east - street.place;
                    int steps = westward + eastward + Math.min(westward, eastward);
                    if (fewest != NONE && steps >= fewest) continue;
                    if (!allCanBeRead(street, letters, west, east)) continue;
                    fewest = steps;
                    furthestWest = west;
                }
            }
            return howMany ? fewest : furthestWest;
        }

        private boolean allCanBeRead(Street street, int letters, int west, int east) {
            int stretch = (1 << (east + 1)) - (1 << west);
            for (int letter = 0; letter < LETTERS; letter++) {
                if (!hasBit(letters, letter)) continue;
                if ((placesHeardBy[street.forWhom[letter]] & stretch) == 0) return false;
            }
            return true;
        }

        int placesThatFit(Street street) {
            int places = 0;
            for (int from = 0; from < HOUSES; from++) {
                boolean heardByAll = (hearersAt[from] & street.heardBy) == street.heardBy;
                boolean missedByAll = (hearersAt[from] & street.missedBy) == 0;
                if (heardByAll && missedByAll) places |= 1 << from;
            }
            return places;
        }

        int bestToAsk(int places, boolean whom) {
            int all = Integer.bitCount(places);
            int fewest = all + 1;
            int best = NONE;
            for (int house = 0; house < HOUSES; house++) {
                int ifHeard = Integer.bitCount(places & placesHeardBy[house]);
                int leftAtMost = Math.max(ifHeard, all - ifHeard);
                if (leftAtMost < fewest) {
                    fewest = leftAtMost;
                    best = house;
                }
            }
            return whom ? best : fewest;
        }
    }

    /** How many others hear, when windows are open by chance: a fraction in lowest terms. */
    private static final class Chances {
        /** Behind n windows: of the 10 to the n ways that all count alike, those in which j are open. */
        private final long[] ways = new long[HOUSES];
        private int sure = 0;
        private int unsure = 0;
        long upper = 0;
        long lower = 1;

        void weigh(Street street, int from) {
            int others = ~(1 << from);
            int ifAllAreShut = street.hearers(from, 0) & others;
            int ifAllAreOpen = street.hearers(from, ALL_HOUSES) & others;
            sure = Integer.bitCount(ifAllAreShut);
            unsure = Integer.bitCount(ifAllAreOpen) - sure;
        }

        void findMean(int tenths) {
            putLowest(TENTHS * sure + tenths * unsure, TENTHS);
        }

        void findAtMost(int tenths, int most) {
            countWays(tenths);
            long all = 0;
            long fitting = 0;
            for (int j = 0; j <= unsure && j < HOUSES; j++) {
                all += ways[j];
                if (sure + j <= most) fitting += ways[j];
            }
            putLowest(fitting, all);
        }

        private void countWays(int tenths) {
            ways[0] = 1;
            for (int n = 1; n <= unsure && n < HOUSES; n++) {
                ways[n] = ways[n - 1] * tenths;
                for (int j = n - 1; j >= 1; j--) {
                    ways[j] = ways[j] * (TENTHS - tenths) + ways[j - 1] * tenths;
                }
                ways[0] *= TENTHS - tenths;
            }
        }

        private void putLowest(long above, long below) {
            long divisor = greatestDivisor(above, below);
            if (divisor <= 0) return;
            upper = above / divisor;
            lower = below / divisor;
        }

        private static long greatestDivisor(long a, long b) {
            long larger = a;
            long smaller = b;
            for (int i = 0; i < 100 && smaller != 0; i++) {
                long rest = larger % smaller;
                larger = smaller;
                smaller = rest;
            }
            return larger;
        }
    }
}
