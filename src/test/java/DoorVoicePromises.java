/** Each promise by itself: ordinary inputs, the edges that the document names, wrong inputs. */
public final class DoorVoicePromises {
    private static final int NONE = -6, UNKNOWN = -1, OUTSIDE = -2, STATE = -3, FULL = -4, NO = -5;
    private static final long LOST = -1000000000000000000L;
    private static final int LEAST = Integer.MIN_VALUE, MOST = Integer.MAX_VALUE;
    private static int wrong = 0;

    private static void due(String call, long got, long want) {
        if (got == want) return;
        wrong++;
        System.out.println(call + " answered " + got + ", due is " + want);
    }

    private static void write(DoorVoice x, String text) {
        x.wipe();
        for (char sign : text.toCharArray()) x.say(sign);
    }

    public static void main(String[] args) {
        newObject();
        house();
        wall();
        set();
        letter();
        say();
        wipe();
        fault();
        judge();
        done();
        knows();
        behind();
        who();
        loud();
        hears();
        best();
        thirds();
        round();
        seen();
        forget();
        at();
        ask();
        rumour();
        chance();
        year();
        image();
        restore();
        told();
        System.out.println(wrong == 0 ? "all promises are kept" : wrong + " answers are not as due");
        if (wrong != 0) System.exit(1);
    }

    // Promise 1
    private static void newObject() {
        DoorVoice x = new DoorVoice();
        for (int what = 0; what <= 6; what++) due("new: told(" + what + ")", x.told(what), 0);
        due("new: the VOICE", x.told(7), 4);
        due("new: the WIND and 3", x.told(8), 3);
        for (int h = 0; h < 12; h++) due("new: FACTS of " + h, x.told(20 + h), 0);
        for (int w = 0; w < 11; w++) due("new: WALL " + w, x.told(40 + w), 0);
        for (int l = 0; l < 6; l++) {
            for (int part = 0; part < 4; part++) due("new: LETTER " + l + " " + part, x.told(100 + 10 * l + part), 0);
        }
        due("new: fault()", x.fault(), NONE);
        due("new: at()", x.at(), 4095);
        due("new: restore(0)", x.restore(0), STATE);
        due("new: restore(1)", x.restore(1), STATE);
    }

    // Promise 2
    private static void house() {
        DoorVoice x = new DoorVoice();
        due("house: first", x.house(0, true, false, 255), 0);
        due("house: again", x.house(0, false, true, 7), 255);
        due("house: last", x.house(11, true, true, 128), 0);
        due("house: OPEN", x.told(3), 2048);
        due("house: DEAF", x.told(4), 2049);
        due("house: FACTS", x.told(20), 7);
        due("house: FACTS of the last", x.told(31), 128);
        due("house(12)", x.house(12, true, true, 0), UNKNOWN);
        due("house(-1)", x.house(-1, true, true, 0), UNKNOWN);
        due("house(least)", x.house(LEAST, true, true, 0), UNKNOWN);
        due("house: UNKNOWN ahead of OUTSIDE", x.house(12, true, true, 256), UNKNOWN);
        due("house: FACTS 256", x.house(0, true, false, 256), OUTSIDE);
        due("house: FACTS -1", x.house(0, true, false, -1), OUTSIDE);
        due("house: refused changes nothing (OPEN)", x.told(3), 2048);
        due("house: refused changes nothing (DEAF)", x.told(4), 2049);
        due("house: refused changes nothing (FACTS)", x.told(20), 7);
    }

    // Promise 3
    private static void wall() {
        DoorVoice x = new DoorVoice();
        due("wall(0, 9)", x.wall(0, 9), 0);
        due("wall(0, 3)", x.wall(0, 3), 9);
        due("wall(10, 1)", x.wall(10, 1), 0);
        due("wall(11, 1)", x.wall(11, 1), UNKNOWN);
        due("wall(-1, 1)", x.wall(-1, 1), UNKNOWN);
        due("wall(11, 10)", x.wall(11, 10), UNKNOWN);
        due("wall(0, 10)", x.wall(0, 10), OUTSIDE);
        due("wall(0, -1)", x.wall(0, -1), OUTSIDE);
        due("wall: refused changes nothing", x.told(40), 3);
        due("wall: the last", x.told(50), 1);
        due("wall(0, 0)", x.wall(0, 0), 3);
    }

    // Promise 4
    private static void set() {
        DoorVoice x = new DoorVoice();
        due("set(0, 1)", x.set(0, 1), 4);
        due("set(0, 40)", x.set(0, 40), 1);
        due("set(0, 41)", x.set(0, 41), OUTSIDE);
        due("set(0, 0)", x.set(0, 0), OUTSIDE);
        due("the VOICE stays", x.told(7), 40);
        due("set(1, -3)", x.set(1, -3), 3);
        due("set(1, 3)", x.set(1, 3), 0);
        due("set(1, 4)", x.set(1, 4), OUTSIDE);
        due("set(1, -4)", x.set(1, -4), OUTSIDE);
        due("the WIND stays", x.told(8), 6);
        due("set(2, 11)", x.set(2, 11), 0);
        due("set(2, 11) again", x.set(2, 11), 11);
        due("set(2, 0)", x.set(2, 0), 11);
        due("set(2, 11) anew", x.set(2, 11), 0);
        due("set(2, 12)", x.set(2, 12), OUTSIDE);
        due("set(2, -1)", x.set(2, -1), OUTSIDE);
        due("HE stays", x.told(1), 11);
        due("set(3, 1)", x.set(3, 1), OUTSIDE);
        due("set(-1, 1)", x.set(-1, 1), OUTSIDE);
    }

    // Promise 5
    private static void letter() {
        DoorVoice x = new DoorVoice();
        due("letter(5, ..)", x.letter(5, 11, 255, 254, 4095), 0);
        due("FOR", x.told(150), 11);
        due("PLAIN", x.told(151), 255);
        due("CIPHER", x.told(152), 254);
        due("KEYS", x.told(153), 4095);
        write(x, "5");
        due("letter: it is read", x.done(), 1);
        due("letter: READ", x.told(5), 32);
        due("letter: refused", x.letter(5, 12, 0, 0, 0), OUTSIDE);
        due("letter: refused leaves it READ", x.told(5), 32);
        due("letter: anew", x.letter(5, 2, 1, 2, 3), 11);
        due("letter: not READ", x.told(5), 0);
        due("letter(6)", x.letter(6, 0, 0, 0, 0), UNKNOWN);
        due("letter(-1)", x.letter(-1, 0, 0, 0, 0), UNKNOWN);
        due("letter: UNKNOWN ahead", x.letter(6, 12, 0, 0, 0), UNKNOWN);
        due("letter: HOUSE -1", x.letter(0, -1, 0, 0, 0), OUTSIDE);
        due("letter: PLAIN -1", x.letter(0, 0, -1, 0, 0), OUTSIDE);
        due("letter: PLAIN 256", x.letter(0, 0, 256, 0, 0), OUTSIDE);
        due("letter: CIPHER -1", x.letter(0, 0, 0, -1, 0), OUTSIDE);
        due("letter: CIPHER 256", x.letter(0, 0, 0, 256, 0), OUTSIDE);
        due("letter: KEYS -1", x.letter(0, 0, 0, 0, -1), OUTSIDE);
        due("letter: KEYS 4096", x.letter(0, 0, 0, 0, 4096), OUTSIDE);
        due("letter: refused changes nothing", x.told(100), 0);
    }

    // Promise 6
    private static void say() {
        DoorVoice x = new DoorVoice();
        due("say(32)", x.say(32), OUTSIDE);
        due("say(127)", x.say(127), OUTSIDE);
        due("say(33)", x.say(33), 1);
        due("say(126)", x.say(126), 2);
        for (int n = 3; n <= 60; n++) due("say: sign " + n, x.say('a'), n);
        due("say: the 61st", x.say('a'), FULL);
        due("say: OUTSIDE ahead of FULL", x.say(32), OUTSIDE);
        due("say: still 60", x.told(0), 60);
    }

    // Promise 7
    private static void wipe() {
        DoorVoice x = new DoorVoice();
        due("wipe: empty", x.wipe(), 0);
        write(x, "ab0");
        due("wipe: three", x.wipe(), 3);
        due("wipe: gone", x.told(0), 0);
        due("wipe: none left", x.wipe(), 0);
        due("wipe: anew", x.say('b'), 1);
    }

    // Promise 8
    private static void fault() {
        faulty("", NONE);
        faulty("abl05!a!l..", NONE);
        faulty("m", 0);
        faulty("A", 0);
        faulty("`", 0);
        faulty("6", 0);
        faulty("/", 0);
        faulty("~", 0);
        faulty("!", 1);
        faulty("a!", 2);
        faulty("!!a", 1);
        faulty("!0", 1);
        faulty("!.", 1);
        faulty("!m", 1);
        faulty("!ax!", 2);
        faulty("aa", NONE);
        String full = "a".repeat(59) + "!";
        faulty(full, 60);
    }

    private static void faulty(String text, int place) {
        DoorVoice x = new DoorVoice();
        write(x, text);
        due("fault of '" + text + "'", x.fault(), place);
        if (place == NONE) return;
        due("judge(0) of '" + text + "'", x.judge(0), NO);
        due("judge(2) of '" + text + "'", x.judge(2), OUTSIDE);
        due("done() of '" + text + "'", x.done(), NO);
        due("knows(0) of '" + text + "'", x.knows(0), NO);
        due("knows(12) of '" + text + "'", x.knows(12), UNKNOWN);
        due("behind(0) of '" + text + "'", x.behind(0), NO);
        due("behind(4) of '" + text + "'", x.behind(4), OUTSIDE);
        due("signs of '" + text + "' stay", x.told(0), text.length());
    }

    // Promise 9
    private static void judge() {
        judged("", NONE, NONE);
        judged("a", 0, 1);
        judged("bab", NONE, NONE);
        judged("bb", 1, 1);
        judged("!a!a!aa", 3, 1);
        judged("0b0", 2, 2);
        judged("012345", NONE, NONE);
        judged("00aa", 1, 2);
        judged(".".repeat(60), NONE, NONE);
        DoorVoice x = new DoorVoice();
        due("judge(2)", x.judge(2), OUTSIDE);
        due("judge(-1)", x.judge(-1), OUTSIDE);
        write(x, ".".repeat(60));
        due("60 evenings", x.done(), 60);
        write(x, ".".repeat(39));
        due("39 evenings more can be", x.judge(0), NONE);
        write(x, ".".repeat(40));
        due("the 40th can not be", x.judge(0), 39);
        due("it is day 99", x.judge(1), 3);
        due("nothing is DONE", x.told(2), 60);
        write(x, ".".repeat(39));
        due("39 evenings", x.done(), 39);
        due("day 99", x.told(2), 99);
        write(x, "b.");
        due("no evening on day 99", x.judge(0), 1);
        due("why", x.judge(1), 3);
    }

    private static void judged(String text, int act, int why) {
        DoorVoice x = new DoorVoice();
        write(x, text);
        due("judge(0) of '" + text + "'", x.judge(0), act);
        due("judge(1) of '" + text + "'", x.judge(1), why);
        if (act != NONE) due("done() of '" + text + "'", x.done(), NO);
    }

    // Promise 10
    private static void done() {
        DoorVoice x = new DoorVoice();
        due("done: empty", x.done(), 0);
        x.letter(2, 4, 5, 8, 1 << 3);
        write(x, "d!c2.!b");
        due("done: five ACTS", x.done(), 5);
        due("done: the PAD is empty", x.told(0), 0);
        due("done: where", x.told(1), 3);
        due("done: day", x.told(2), 1);
        due("done: OPEN", x.told(3), 6);
        due("done: READ", x.told(5), 4);
        // read at d, 3 loud beside it, 2 loud at b and f: c, d, e hear, d has the key; at night b, c, e, f learn more
        due("done: b", x.told(21), 5);
        due("done: c", x.told(22), 13);
        due("done: d", x.told(23), 13);
        due("done: e", x.told(24), 13);
        due("done: f", x.told(25), 5);
        due("done: g", x.told(26), 0);
        write(x, "d");
        due("done: he is there", x.done(), NO);
        due("done: refused keeps the PAD", x.told(0), 1);
    }

    // Promise 11
    private static void knows() {
        DoorVoice x = new DoorVoice();
        x.house(5, false, false, 9);
        due("knows: now", x.knows(5), 9);
        write(x, ".");
        due("knows: beside", x.knows(6), 9);
        due("knows: further", x.knows(7), 0);
        due("knows: nothing is DONE", x.told(26), 0);
        x.wall(5, 5);
        due("knows: a wall of 5", x.knows(6), 0);
        x.wall(5, 4);
        due("knows: a wall of 4", x.knows(6), 9);
        x.house(6, true, true, 2);
        due("knows: the deaf do not", x.knows(6), 2);
        due("knows: but tell", x.knows(7), 2);
        due("knows: and back", x.knows(5), 11);
        due("knows(11)", x.knows(11), 0);
        due("knows(12)", x.knows(12), UNKNOWN);
        due("knows(-1)", x.knows(-1), UNKNOWN);
        write(x, "a");
        due("knows: can not be", x.knows(0), NO);
        due("knows: UNKNOWN ahead of NO", x.knows(12), UNKNOWN);
    }

    // Promise 12
    private static void behind() {
        DoorVoice x = new DoorVoice();
        x.letter(0, 0, 1, 0, 0);
        x.letter(1, 11, 1, 0, 0);
        write(x, "b.0l1");
        due("behind(0)", x.behind(0), 11);
        due("behind(1)", x.behind(1), 1);
        due("behind(2)", x.behind(2), 3);
        due("behind(3): none", x.behind(3), NONE);
        write(x, "!a0.1!b2");
        due("behind(3): the fourth ACT", x.behind(3), 3);
        x.house(0, false, true, 0);
        due("behind(3): the deaf never hear", x.behind(3), 1);
        x.house(0, false, false, 0);
        write(x, "c0");
        due("behind(3): a shut window", x.behind(3), 1);
        write(x, "c!a0");
        due("behind(3): an open window", x.behind(3), NONE);
        due("behind(4)", x.behind(4), OUTSIDE);
        due("behind(-1)", x.behind(-1), OUTSIDE);
        write(x, "00");
        for (int what = 0; what < 4; what++) due("behind: can not be", x.behind(what), NO);
        due("behind: OUTSIDE ahead of NO", x.behind(4), OUTSIDE);
        due("behind: nothing is DONE", x.told(5), 0);
    }

    // Promise 13
    private static void who() {
        DoorVoice x = new DoorVoice();
        x.house(0, false, false, 129);
        x.house(11, false, true, 128);
        due("who(0)", x.who(0), 1);
        due("who(1)", x.who(1), 0);
        due("who(7)", x.who(7), 2049);
        write(x, ".");
        due("who: now, not BEHIND", x.who(0), 1);
        due("who(8)", x.who(8), UNKNOWN);
        due("who(-1)", x.who(-1), UNKNOWN);
    }

    // Promise 14
    private static void loud() {
        DoorVoice x = new DoorVoice();
        x.set(0, 20);
        x.wall(3, 2);
        due("loud: there", x.loud(3, 3), 20);
        due("loud: through the WALL", x.loud(3, 4), 17);
        due("loud: back through it", x.loud(4, 3), 17);
        x.set(1, 3);
        due("loud: the WIND takes the WALL's part", x.loud(3, 4), 20);
        due("loud: it never grows", x.loud(0, 3), 20);
        due("loud: against the WIND", x.loud(4, 3), 14);
        due("loud: and on", x.loud(4, 2), 10);
        due("loud: 0 at least", x.loud(11, 0), 0);
        x.house(4, false, true, 0);
        due("loud: at a DEAF one's, too", x.loud(3, 4), 20);
        due("loud(11, 11)", x.loud(11, 11), 20);
        x.set(1, 1);
        due("loud: neither more nor less", x.loud(0, 3), 20);
        due("loud: less by the WALL alone", x.loud(3, 4), 18);
        x.set(1, 0);
        due("loud: 1 less each", x.loud(3, 0), 17);
        due("loud(12, 0)", x.loud(12, 0), UNKNOWN);
        due("loud(0, 12)", x.loud(0, 12), UNKNOWN);
        due("loud(-1, 0)", x.loud(-1, 0), UNKNOWN);
        due("loud(0, -1)", x.loud(0, -1), UNKNOWN);
    }

    // Promise 15
    private static void hears() {
        DoorVoice x = new DoorVoice();
        due("hears: 3 loud beside", x.hears(5), 0b1110000);
        due("hears: at the west end", x.hears(0), 0b11);
        due("hears: at the east end", x.hears(11), 0b110000000000);
        x.house(7, true, false, 0);
        x.house(8, true, false, 0);
        x.house(9, true, false, 0);
        due("hears: open, 2 and 1 loud, not 0", x.hears(5), 0b111110000);
        x.set(0, 1);
        due("hears: he stands there, 1 loud, shut", x.hears(5), 1 << 5);
        x.house(5, true, true, 0);
        due("hears: the DEAF do not", x.hears(5), 0);
        x.set(0, 4);
        x.set(2, 0);
        due("hears: where HE is now is nothing to it", x.hears(11), 0b111100000000);
        due("hears(12)", x.hears(12), UNKNOWN);
        due("hears(-1)", x.hears(-1), UNKNOWN);
    }

    // Promise 16
    private static void best() {
        DoorVoice x = new DoorVoice();
        x.letter(3, 5, 0, 0, 0);
        due("best: two others", x.best(3, 0), 2);
        due("best: the least such", x.best(3, 1), 4);
        x.house(6, false, true, 0);
        x.house(7, false, true, 0);
        due("best: none other", x.best(3, 0), 0);
        due("best: where", x.best(3, 1), 6);
        write(x, "3");
        x.done();
        due("best: READ already", x.best(3, 1), 6);
        x.house(5, true, true, 0);
        due("best: FOR a DEAF one", x.best(3, 0), NONE);
        due("best: nowhere", x.best(3, 1), NONE);
        x.letter(5, 0, 0, 0, 0);
        due("best: at the west end", x.best(5, 0), 1);
        due("best: the end itself", x.best(5, 1), 0);
        due("best(6, 2)", x.best(6, 2), UNKNOWN);
        due("best(-1, 0)", x.best(-1, 0), UNKNOWN);
        due("best(0, 2)", x.best(0, 2), OUTSIDE);
        due("best(0, -1)", x.best(0, -1), OUTSIDE);
    }

    // Promise 17
    private static void thirds() {
        DoorVoice x = new DoorVoice();
        due("thirds: three threes", x.thirds(1, 0), 3);
        due("thirds: the first", x.thirds(1, 1), 2);
        due("thirds: of the tenth", x.thirds(10, 1), 90911);
        due("thirds: none", x.thirds(0, 0), 0);
        due("thirds: no first", x.thirds(0, 1), NONE);
        x.set(0, 1);
        due("thirds: one hears at its own door alone", x.thirds(11, 0), 1);
        due("thirds: there thrice", x.thirds(11, 1), 111111);
        due("thirds(12, 2)", x.thirds(12, 2), UNKNOWN);
        due("thirds(-1, 0)", x.thirds(-1, 0), UNKNOWN);
        due("thirds(0, 2)", x.thirds(0, 2), OUTSIDE);
        due("thirds(0, -1)", x.thirds(0, -1), OUTSIDE);
    }

    // Promise 18
    private static void round() {
        DoorVoice x = new DoorVoice();
        x.set(0, 1);
        x.set(2, 5);
        x.letter(0, 4, 0, 0, 0);
        x.letter(1, 8, 0, 0, 0);
        x.letter(2, 2, 0, 0, 0);
        due("round: no LETTERS", x.round(0, 0), 0);
        due("round: stays", x.round(0, 1), 5);
        due("round: the nearer first", x.round(3, 0), 5);
        due("round: west", x.round(3, 1), 4);
        due("round: both as far", x.round(6, 0), 9);
        due("round: west of it", x.round(6, 1), 2);
        due("round: of all, those FOR 0 too", x.round(63, 0), 11);
        x.set(0, 3);
        x.house(2, true, false, 0);
        x.house(8, true, false, 0);
        x.letter(3, 5, 0, 0, 0);
        due("round: from afar", x.round(6, 0), 3);
        due("round: from afar, west", x.round(6, 1), 4);
        x.set(2, 3);
        due("round: it is heard where HE stands", x.round(4, 0), 0);
        due("round: HE stays", x.round(4, 1), 3);
        x.set(2, 11);
        due("round: from the east end", x.round(4, 0), 7);
        due("round: only as far as need be", x.round(4, 1), 4);
        write(x, "1");
        x.done();
        due("round: READ already", x.round(2, 0), 1);
        x.house(8, false, true, 0);
        due("round: FOR a DEAF one", x.round(6, 0), NONE);
        due("round: no way", x.round(2, 1), NONE);
        due("round(64, 2)", x.round(64, 2), UNKNOWN);
        due("round(-1, 0)", x.round(-1, 0), UNKNOWN);
        due("round(0, 2)", x.round(0, 2), OUTSIDE);
        due("round(0, -1)", x.round(0, -1), OUTSIDE);
    }

    // Promise 19
    private static void seen() {
        DoorVoice x = new DoorVoice();
        due("seen(12)", x.seen(12, true), UNKNOWN);
        due("seen(-1)", x.seen(-1, false), UNKNOWN);
        due("seen: refused are none", x.told(6), 0);
        for (int n = 1; n <= 8; n++) due("seen: SIGHT " + n, x.seen(0, n % 2 == 0), n);
        due("seen: the 9th", x.seen(0, true), FULL);
        due("seen: UNKNOWN ahead of FULL", x.seen(12, true), UNKNOWN);
        due("seen: 8", x.told(6), 8);
        x.forget();
        due("seen(11)", x.seen(11, true), 1);
    }

    // Promise 20
    private static void forget() {
        DoorVoice x = new DoorVoice();
        due("forget: none", x.forget(), 0);
        x.seen(3, true);
        x.seen(3, false);
        due("forget: two", x.forget(), 2);
        due("forget: gone", x.told(6), 0);
        due("forget: all fit again", x.at(), 4095);
    }

    // Promise 21
    private static void at() {
        DoorVoice x = new DoorVoice();
        x.seen(3, true);
        due("at: heard", x.at(), 0b11100);
        x.seen(2, false);
        due("at: not heard", x.at(), 0b10000);
        x.house(2, true, false, 0);
        due("at: as things are now", x.at(), 0);
        x.house(2, false, true, 0);
        due("at: the DEAF never hear", x.at(), 0b11100);
        x.seen(3, false);
        due("at: it can not be both", x.at(), 0);
    }

    // Promise 22
    private static void ask() {
        DoorVoice x = new DoorVoice();
        due("ask: of all", x.ask(0), 1);
        due("ask: left", x.ask(1), 9);
        x.house(1, false, true, 0);
        due("ask: not the DEAF", x.ask(0), 2);
        x.seen(3, true);
        due("ask: of three", x.ask(0), 2);
        due("ask: two left", x.ask(1), 2);
        x.seen(0, true);
        due("ask: none fits", x.ask(0), NONE);
        due("ask: none is left", x.ask(1), NONE);
        due("ask(2)", x.ask(2), OUTSIDE);
        due("ask(-1)", x.ask(-1), OUTSIDE);
    }

    // Promise 23
    private static void rumour() {
        DoorVoice x = new DoorVoice();
        x.house(4, false, false, 255);
        due("rumour: 0 evenings", x.rumour(0, 0), 1);
        due("rumour: 11 evenings", x.rumour(0, 11), 12);
        due("rumour: 20 evenings", x.rumour(0, 20), 12);
        due("rumour: 10 evenings", x.rumour(11, 10), 11);
        due("rumour: till all know", x.rumour(11, -1), 11);
        x.wall(2, 5);
        due("rumour: a WALL of 5", x.rumour(0, 20), 3);
        x.wall(2, 4);
        due("rumour: a WALL of 4", x.rumour(0, 20), 12);
        x.house(1, false, true, 0);
        due("rumour: a DEAF neighbour", x.rumour(0, 20), 1);
        due("rumour: no evening", x.rumour(0, -1), 0);
        due("rumour: a DEAF one tells", x.rumour(1, 1), 3);
        due("rumour: and on", x.rumour(1, -1), 10);
        due("rumour(12, 21)", x.rumour(12, 21), UNKNOWN);
        due("rumour(-1, 0)", x.rumour(-1, 0), UNKNOWN);
        due("rumour(0, 21)", x.rumour(0, 21), OUTSIDE);
        due("rumour(0, -2)", x.rumour(0, -2), OUTSIDE);
    }

    // Promise 24
    private static void chance() {
        DoorVoice x = new DoorVoice();
        x.set(0, 2);
        x.set(1, 1);
        fraction(x, 0, 3, 11, 1, 1);
        fraction(x, 0, 3, 0, 1977326743L, 100000000000L);
        fraction(x, 0, 5, 0, 1, 2048);
        fraction(x, 0, 0, 0, 1, 1);
        fraction(x, 0, 10, 10, 0, 1);
        fraction(x, 0, 3, -1, 33, 10);
        fraction(x, 0, 10, -1, 11, 1);
        fraction(x, 0, 0, -1, 0, 1);
        x.house(3, true, true, 0);
        fraction(x, 0, 3, -1, 3, 1);
        x.house(4, true, false, 0);
        fraction(x, 0, 3, -1, 3, 1);
        DoorVoice mixed = new DoorVoice();
        // 3 loud on both sides, then 2 and 1 loud to the west, nothing behind the WALL to the east
        mixed.wall(6, 9);
        fraction(mixed, 5, 2, 1, 0, 1);
        fraction(mixed, 5, 2, 2, 16, 25);
        fraction(mixed, 5, 2, 3, 24, 25);
        fraction(mixed, 5, 2, 4, 1, 1);
        fraction(mixed, 5, 2, -1, 12, 5);
        fraction(mixed, 11, 2, 0, 0, 1);
        fraction(mixed, 11, 2, 1, 16, 25);
        due("chance: UNKNOWN", x.chance(12, 11, 12, 2), LOST + UNKNOWN);
        due("chance: UNKNOWN", x.chance(-1, 0, 0, 0), LOST + UNKNOWN);
        due("chance: t 11", x.chance(0, 11, 0, 0), LOST + OUTSIDE);
        due("chance: t -1", x.chance(0, -1, 0, 0), LOST + OUTSIDE);
        due("chance: k 12", x.chance(0, 0, 12, 0), LOST + OUTSIDE);
        due("chance: k -2", x.chance(0, 0, -2, 0), LOST + OUTSIDE);
        due("chance: part 2", x.chance(0, 0, 0, 2), LOST + OUTSIDE);
        due("chance: part -1", x.chance(0, 0, 0, -1), LOST + OUTSIDE);
    }

    private static void fraction(DoorVoice x, int at, int t, int k, long upper, long lower) {
        due("chance(" + at + ", " + t + ", " + k + ", 0)", x.chance(at, t, k, 0), upper);
        due("chance(" + at + ", " + t + ", " + k + ", 1)", x.chance(at, t, k, 1), lower);
    }

    // Promise 25
    private static void year() {
        DoorVoice x = new DoorVoice();
        // 0, 74: go to 9; 74, 5624: an evening
        due("year: goes", x.year(0, 1, 1), 9);
        x.set(2, 9);
        due("year: is there already", x.year(0, 1, 1), 9);
        x.house(3, false, false, 7);
        due("year: FACTS", x.year(0, 1, 0), 3);
        due("year: an evening more", x.year(0, 2, 0), 9);
        due("year: nothing is DONE", x.told(23) * 1000 + x.told(2), 7000);
        due("year(-1, 1, 0)", x.year(-1, 1, 0), OUTSIDE);
        due("year(10000, 1, 0)", x.year(10000, 1, 0), OUTSIDE);
        due("year(0, 0, 0)", x.year(0, 0, 0), OUTSIDE);
        due("year(0, 100, 0)", x.year(0, 100, 0), OUTSIDE);
        due("year(0, 1, 3)", x.year(0, 1, 3), OUTSIDE);
        due("year(0, 1, -1)", x.year(0, 1, -1), OUTSIDE);
        // 1 becomes 149, left over by 8: 5; 149 by 8 is 18, left over by 6: LETTER 0
        x.letter(0, 0, 48, 64, 1 << 9);
        due("year: reads", x.year(1, 1, 2), 1);
        due("year: three hear it, one has the key", x.year(1, 1, 0), 3 + 2 * 3 + 1);
        write(x, "0");
        x.done();
        due("year: READ already counts", x.year(0, 1, 2), 1);
        due("year: is not read twice", x.year(1, 1, 2), 1);
    }

    // Promise 26
    private static void image() {
        DoorVoice x = new DoorVoice();
        due("image(2)", x.image(2), OUTSIDE);
        due("image(-1)", x.image(-1), OUTSIDE);
        due("image(1)", x.image(1), 1);
        due("image: not the other one", x.restore(0), STATE);
        x.set(0, 7);
        due("image: anew", x.image(1), 1);
        x.set(0, 8);
        due("image: the newer", x.restore(1) * 100 + x.told(7), 107);
    }

    // Promise 27
    private static void restore() {
        DoorVoice x = new DoorVoice();
        due("restore(2)", x.restore(2), OUTSIDE);
        due("restore(-1)", x.restore(-1), OUTSIDE);
        due("restore(0)", x.restore(0), STATE);
        x.house(1, true, true, 3);
        x.wall(10, 7);
        x.set(1, 2);
        x.letter(5, 6, 7, 8, 9);
        x.seen(4, true);
        write(x, "c5.");
        x.done();
        x.image(0);
        int[] kept = tellAll(x);
        x.image(1);
        x.house(1, false, false, 0);
        x.wall(10, 0);
        x.set(0, 9);
        x.set(1, -1);
        x.letter(5, 0, 0, 0, 0);
        x.forget();
        x.seen(9, false);
        x.seen(9, false);
        int atThen = x.at();
        write(x, "d4..");
        x.done();
        write(x, "ef");
        x.image(1);
        due("restore(0)", x.restore(0), 1);
        int[] back = tellAll(x);
        for (int i = 1; i < kept.length; i++) due("restore: told " + i, back[i], kept[i]);
        due("restore: the PAD stays", x.told(0), 2);
        due("restore: SIGHTS, too, with the WIND of then", x.at(), 0b11111);
        due("restore(1)", x.restore(1), 1);
        due("restore: the VOICE", x.told(7), 9);
        due("restore: other SIGHTS", x.at(), atThen);
        due("restore(0) again", x.restore(0), 1);
        due("restore: again", x.told(7), 4);
    }

    private static int[] tellAll(DoorVoice x) {
        int[] all = new int[160];
        for (int what = 0; what < 160; what++) all[what] = x.told(what);
        return all;
    }

    // Promise 28
    private static void told() {
        DoorVoice x = new DoorVoice();
        int given = 0;
        for (int what = -200; what < 300; what++) {
            boolean letters = what >= 100 && what < 160 && what % 10 < 4;
            boolean known = what >= 0 && what <= 8 || what >= 20 && what <= 31 || what >= 40 && what <= 50 || letters;
            due("told: OUTSIDE " + what, x.told(what) == OUTSIDE ? 0 : 1, known ? 1 : 0);
            if (known) given++;
        }
        due("told: how many", given, 9 + 12 + 11 + 24);
        x = new DoorVoice();
        due("told(least)", x.told(LEAST), OUTSIDE);
        due("told(most)", x.told(MOST), OUTSIDE);
        x.set(1, -3);
        x.set(2, 6);
        x.set(0, 12);
        x.house(2, true, false, 5);
        x.house(10, false, true, 6);
        x.seen(1, false);
        write(x, "ab");
        due("told(0)", x.told(0), 2);
        due("told(1)", x.told(1), 6);
        due("told(2)", x.told(2), 0);
        due("told(3)", x.told(3), 4);
        due("told(4)", x.told(4), 1024);
        due("told(5)", x.told(5), 0);
        due("told(6)", x.told(6), 1);
        due("told(7)", x.told(7), 12);
        due("told(8)", x.told(8), 0);
        due("told(22)", x.told(22), 5);
        due("told(30)", x.told(30), 6);
    }
}
