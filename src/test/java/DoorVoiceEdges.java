import java.util.ArrayList;
import java.util.List;
import java.util.regex.Matcher;
import java.util.regex.Pattern;

/**
 * Each sentence of the document that names a boundary, by itself and on both of its sides.
 *
 * A script is a row of calls on a new object. name(..)=answer is a call that answers so; name(..)!REFUSAL is refused,
 * and the whole state is told ahead of it and behind it; n*name(..) is n such calls. pad(text) wipes the PAD and says
 * the text; fraction(at, t, k)=a/b is chance with both parts; MIN and MAX are the ends of int.
 */
public final class DoorVoiceEdges {
    private static final int CALLS = 512;
    private static final String[] NAMES = {"NONE", "UNKNOWN", "OUTSIDE", "STATE", "FULL", "NO", "MIN", "MAX", "true", "false"};
    private static final int[] NUMBERS = {-6, -1, -2, -3, -4, -5, Integer.MIN_VALUE, Integer.MAX_VALUE, 1, 0};
    private static final long LOST = -1000000000000000000L;

    private static int wrong = 0;
    private static int sentences = 0;
    private static String words = "";

    public static void main(String[] args) {
        terms();
        newObject();
        house();
        wall();
        set();
        letter();
        say();
        wipe();
        fault();
        judge();
        days();
        done();
        knows();
        readings();
        evenings();
        behind();
        who();
        loud();
        hears();
        best();
        thirds();
        round();
        seen();
        forget();
        at();
        ask();
        rumour();
        chance();
        year();
        image();
        restore();
        told();
        lastCall();
        System.out.println(wrong == 0 ? sentences + " sentences hold" : wrong + " things are not as due");
        if (wrong != 0) System.exit(1);
    }

    // ---- states in which a call is refused alike

    private static final String NEW = "";
    /** Something of all, both IMAGES kept and not alike, a text that can be. */
    private static final String RICH = "house(0, true, false, 1) house(3, false, true, 6) house(7, true, false, 128)"
        + " house(11, true, false, 64) wall(0, 1) wall(2, 5) wall(6, 4) wall(10, 9) set(0, 6) set(1, 1)"
        + " letter(0, 1, 3, 4, 2) letter(2, 7, 16, 32, 4095) letter(5, 11, 8, 0, 1) seen(5, true) image(0)"
        + " pad(c0.!b) done()=4 seen(2, false) image(1) set(0, 5) pad(h2.!ca)";
    private static final String FAULTY = "image(1) set(2, 4) pad(b0m)";
    private static final String MORE_MUST_COME = "letter(1, 4, 5, 6, 7) image(0) seen(4, true) pad(b1.!)";
    private static final String CAN_NOT_BE = "letter(0, 1, 3, 4, 2) seen(1, true) pad(b0.!cb)";
    private static final String FULL_PAD = "pad(" + "ba".repeat(30) + ")";
    private static final String FULL_SIGHTS = "4*seen(5, true) 4*seen(0, false) pad(b)";
    private static final String NO_HOUSE_FITS = "seen(0, true) seen(0, false)";
    private static final String DAY_99 = evenings(60) + "done()=60 " + evenings(39) + "done()=39 " + evenings(1);
    private static final String ALL_DEAF = allHouses("house(#, true, true, 255) ");
    /** Each number the greatest that is taken. */
    private static final String GREATEST = ALL_DEAF + allWalls("wall(#, 9) ") + "set(0, 40) set(1, 3) set(2, 11) "
        + allLetters("letter(#, 11, 255, 255, 4095) ") + "pad(012345) done()=6 8*seen(11, false) image(0) image(1) ";
    private static final String[] STATES = {
        NEW, RICH, FAULTY, MORE_MUST_COME, CAN_NOT_BE, FULL_PAD, FULL_SIGHTS, NO_HOUSE_FITS, DAY_99, ALL_DEAF, GREATEST,
    };

    private static String evenings(int n) {
        return "pad(" + ".".repeat(n) + ") ";
    }

    private static String forAll(String script, int count) {
        StringBuilder all = new StringBuilder();
        for (int n = 0; n < count; n++) all.append(script.replace("#", "" + n));
        return all.toString();
    }

    private static String allHouses(String script) {
        return forAll(script, 12);
    }

    private static String allWalls(String script) {
        return forAll(script, 11);
    }

    private static String allLetters(String script) {
        return forAll(script, 6);
    }

    // ---- Terms

    private static void terms() {
        sentence("Terms: UNKNOWN is ahead of OUTSIDE");
        refusedAlways("house(12, true, true, 256)", "UNKNOWN");
        refusedAlways("house(MIN, true, true, MAX)", "UNKNOWN");
        refusedAlways("wall(11, 10)", "UNKNOWN");
        refusedAlways("wall(MAX, MIN)", "UNKNOWN");
        refusedAlways("letter(6, 12, 256, 256, 4096)", "UNKNOWN");
        refusedAlways("letter(-1, -1, -1, -1, -1)", "UNKNOWN");
        refusedAlways("best(6, 2)", "UNKNOWN");
        refusedAlways("thirds(12, 2)", "UNKNOWN");
        refusedAlways("round(64, 2)", "UNKNOWN");
        refusedAlways("rumour(12, 21)", "UNKNOWN");
        refusedAlways("chance(12, 11, 12, 2)", "UNKNOWN");
        refusedAlways("chance(MIN, MAX, MIN, MAX)", "UNKNOWN");

        sentence("Terms: UNKNOWN is ahead of NO");
        run("pad(m) knows(12)!UNKNOWN knows(11)!NO");
        run("pad(a) knows(-1)!UNKNOWN knows(0)!NO");

        sentence("Terms: UNKNOWN is ahead of FULL");
        run("8*seen(0, true) seen(12, true)!UNKNOWN seen(-1, false)!UNKNOWN seen(11, true)!FULL");

        sentence("Terms: OUTSIDE is ahead of NO");
        run("pad(!) judge(2)!OUTSIDE judge(-1)!OUTSIDE judge(1)!NO behind(4)!OUTSIDE behind(-1)!OUTSIDE behind(3)!NO");

        sentence("Terms: OUTSIDE is ahead of STATE");
        run("restore(2)!OUTSIDE restore(-1)!OUTSIDE restore(1)!STATE");

        sentence("Terms: OUTSIDE is ahead of FULL");
        run("60*say(97) say(32)!OUTSIDE say(127)!OUTSIDE say(126)!FULL say(33)!FULL");

        sentence("Terms: a refusal is ahead of NONE");
        run(ALL_DEAF + "best(0, 1)=NONE best(0, 2)!OUTSIDE best(6, 1)!UNKNOWN round(1, 1)=NONE round(1, 2)!OUTSIDE"
            + " round(64, 1)!UNKNOWN thirds(0, 1)=NONE thirds(0, 2)!OUTSIDE thirds(12, 1)!UNKNOWN");
        run(NO_HOUSE_FITS + "ask(0)=NONE ask(2)!OUTSIDE ask(-1)!OUTSIDE");

        sentence("Terms: asking changes nothing");
        for (String call : new String[] {"fault()", "judge(0)", "judge(1)", "knows(0)", "knows(11)", "behind(0)", "behind(1)",
            "behind(2)", "behind(3)", "who(0)", "loud(0, 11)", "hears(5)", "best(0, 0)", "best(5, 1)", "thirds(5, 0)",
            "thirds(0, 1)", "round(63, 0)", "round(1, 1)", "at()", "ask(0)", "ask(1)", "rumour(5, 20)", "rumour(0, -1)",
            "chance(5, 3, 4, 0)", "chance(5, 3, -1, 1)", "year(77, 99, 0)", "year(5, 40, 1)", "year(9999, 99, 2)",
            "told(0)", "told(153)"}) {
            for (String state : STATES) changesNothing(parse(state), parse(call).get(0));
        }
    }

    // ---- Promise 1

    private static void newObject() {
        sentence("1: the VOICE is 4 at first, the WIND 0; HE stands at 0, it is day 0, nothing is READ, no SIGHT, no sign");
        run("told(0)=0 told(1)=0 told(2)=0 told(5)=0 told(6)=0 told(7)=4 told(8)=3");
        sentence("1: no window is OPEN, nobody is DEAF, nobody KNOWS anything");
        run("told(3)=0 told(4)=0 " + forAll("who(#)=0 ", 8));
        for (int h = 0; h < 12; h++) run("told(" + (20 + h) + ")=0 knows(" + h + ")=0");
        sentence("1: each WALL is 0 thick at first");
        for (int w = 0; w < 11; w++) run("told(" + (40 + w) + ")=0");
        sentence("1: each LETTER is FOR 0 at first, has no FACTS, no KEYS");
        for (int l = 0; l < 6; l++) run(forAll("told(1" + l + "#)=0 ", 4));
        sentence("1: an empty PAD has no FAULT, and no SIGHT leaves all HOUSES");
        run("fault()=NONE judge(0)=NONE judge(1)=NONE done()=0 at()=4095 wipe()=0 forget()=0");
        sentence("1: no IMAGE is kept at first");
        run("restore(0)!STATE restore(1)!STATE");
        sentence("1: two objects have nothing to do with each other");
        DoorVoice one = new DoorVoice();
        DoorVoice other = new DoorVoice();
        one.house(0, true, true, 255);
        one.say('b');
        one.image(0);
        due("told(20) of the other", other.told(20), 0);
        due("told(0) of the other", other.told(0), 0);
        due("restore(0) of the other", other.restore(0), -3);
    }

    // ---- Promise 2

    private static void house() {
        sentence("2: HOUSES 0 to 11, else UNKNOWN");
        ends("house(#, true, true, 255)", 0, 11, "UNKNOWN");
        ends("house(#, false, false, 0)", 0, 11, "UNKNOWN");
        sentence("2: FACTS 0 to 255, else OUTSIDE");
        ends("house(0, true, true, #)", 0, 255, "OUTSIDE");
        ends("house(11, false, false, #)", 0, 255, "OUTSIDE");
        sentence("2: it answers the FACTS that it KNEW");
        run("house(0, false, false, 255)=0 told(20)=255 house(0, false, false, 0)=255 told(20)=0 house(0, false, false, 1)=0");
        run("house(11, false, false, 255)=0 told(31)=255 house(11, true, true, 255)=255 house(11, true, true, 0)=255 told(31)=0");
        sentence("2: OPEN and DEAF are that HOUSE's alone, of the first and of the last");
        run("house(0, true, false, 0) told(3)=1 told(4)=0 house(11, false, true, 0) told(3)=1 told(4)=2048"
            + " house(0, false, false, 0) told(3)=0 told(4)=2048 house(11, true, false, 0) told(3)=2048 told(4)=0");
        run(allHouses("house(#, true, true, 0) ") + "told(3)=4095 told(4)=4095 house(0, false, true, 0) told(3)=4094"
            + " house(11, true, false, 0) told(4)=2047");
    }

    // ---- Promise 3

    private static void wall() {
        sentence("3: WALLS 0 to 10, else UNKNOWN");
        ends("wall(#, 0)", 0, 10, "UNKNOWN");
        ends("wall(#, 9)", 0, 10, "UNKNOWN");
        sentence("3: 0 to 9 thick, else OUTSIDE");
        ends("wall(0, #)", 0, 9, "OUTSIDE");
        ends("wall(10, #)", 0, 9, "OUTSIDE");
        sentence("3: it answers how thick it was");
        run("wall(0, 9)=0 wall(0, 0)=9 wall(0, 0)=0 wall(10, 9)=0 wall(10, 9)=9 told(40)=0 told(50)=9");
        sentence("3: WALL 0 is east of HOUSE 0, WALL 10 is west of HOUSE 11");
        run("set(0, 20) wall(0, 9) loud(0, 1)=10 loud(1, 0)=10 loud(1, 2)=19 loud(2, 1)=19");
        run("set(0, 20) wall(10, 9) loud(10, 11)=10 loud(11, 10)=10 loud(9, 10)=19 loud(10, 9)=19");
    }

    // ---- Promise 4

    private static void set() {
        sentence("4: the VOICE is 1 to 40, else OUTSIDE");
        ends("set(0, #)", 1, 40, "OUTSIDE");
        run("set(0, 40)=4 told(7)=40 set(0, 1)=40 told(7)=1 set(0, 1)=1");
        sentence("4: the WIND is -3 to 3, else OUTSIDE; it answers which it was, and 3");
        ends("set(1, #)", -3, 3, "OUTSIDE");
        run("set(1, 3)=3 told(8)=6 set(1, -3)=6 told(8)=0 set(1, 0)=0 told(8)=3");
        sentence("4: HE stands at 0 to 11, else OUTSIDE");
        ends("set(2, #)", 0, 11, "OUTSIDE");
        run("set(2, 11)=0 told(1)=11 set(2, 0)=11 told(1)=0 set(2, 0)=0");
        sentence("4: which is 0 to 2, else OUTSIDE");
        ends("set(#, 1)", 0, 2, "OUTSIDE");
        ends("set(#, 3)", 0, 2, "OUTSIDE");
        sentence("4: what fits another one does not fit this one");
        refusedAlways("set(0, -3)", "OUTSIDE");
        refusedAlways("set(0, 0)", "OUTSIDE");
        refusedAlways("set(1, 11)", "OUTSIDE");
        refusedAlways("set(2, -3)", "OUTSIDE");
        refusedAlways("set(2, 40)", "OUTSIDE");
    }

    // ---- Promise 5

    private static void letter() {
        sentence("5: LETTERS 0 to 5, else UNKNOWN");
        ends("letter(#, 11, 255, 255, 4095)", 0, 5, "UNKNOWN");
        ends("letter(#, 0, 0, 0, 0)", 0, 5, "UNKNOWN");
        sentence("5: the HOUSE is 0 to 11, else OUTSIDE");
        ends("letter(0, #, 1, 2, 3)", 0, 11, "OUTSIDE");
        ends("letter(5, #, 1, 2, 3)", 0, 11, "OUTSIDE");
        sentence("5: PLAIN FACTS are 0 to 255, else OUTSIDE");
        ends("letter(0, 1, #, 2, 3)", 0, 255, "OUTSIDE");
        sentence("5: FACTS in CIPHER are 0 to 255, else OUTSIDE");
        ends("letter(5, 1, 2, #, 3)", 0, 255, "OUTSIDE");
        sentence("5: KEYS are 0 to 4095, else OUTSIDE");
        ends("letter(0, 1, 2, 3, #)", 0, 4095, "OUTSIDE");
        sentence("5: it answers whom it was FOR");
        run("letter(5, 11, 255, 254, 4095)=0 told(150)=11 told(151)=255 told(152)=254 told(153)=4095"
            + " letter(5, 0, 0, 0, 0)=11 told(150)=0 told(151)=0 told(152)=0 told(153)=0 letter(0, 3, 1, 1, 1)=0 told(150)=0");
        sentence("5: anew it is not READ; a refused one leaves it READ; the others stay READ");
        run("letter(0, 1, 2, 3, 4) letter(5, 11, 8, 9, 10) pad(05) done()=2 told(5)=33 letter(5, 12, 0, 0, 0)!OUTSIDE"
            + " letter(5, 0, 256, 0, 0)!OUTSIDE letter(5, 0, 0, -1, 0)!OUTSIDE letter(5, 0, 0, 0, 4096)!OUTSIDE"
            + " letter(6, 0, 0, 0, 0)!UNKNOWN told(5)=33 pad(5) judge(1)=2 letter(5, 0, 0, 0, 0)=11 told(5)=1"
            + " judge(1)=NONE pad(0) judge(1)=2 letter(0, 1, 2, 3, 4)=1 told(5)=0 judge(1)=NONE");
    }

    // ---- Promise 6

    private static void say() {
        sentence("6: signs are codes 33 to 126, else OUTSIDE");
        for (String state : STATES) {
            for (int code : outside(33, 126)) refused(state, "say(" + code + ")", "OUTSIDE");
        }
        for (int code = 33; code <= 126; code++) run("say(" + code + ")=1 told(0)=1");
        sentence("6: 60 SIGNS at most, else FULL");
        run("58*say(97) say(97)=59 say(98)=60 told(0)=60 say(97)!FULL say(33)!FULL say(126)!FULL told(0)=60");
        sentence("6: a PAD that was full takes signs again behind a wipe or a done");
        run("60*say(46) say(46)!FULL wipe()=60 say(46)=1 told(0)=1");
        run("60*say(46) say(46)!FULL done()=60 say(46)=1 told(0)=1");
    }

    // ---- Promise 7

    private static void wipe() {
        sentence("7: of none, of one and of 60 signs");
        run("wipe()=0 say(97) wipe()=1 wipe()=0 60*say(33) wipe()=60 wipe()=0 told(0)=0 fault()=NONE");
        sentence("7: no sign of the old text stays");
        run("pad(!) wipe()=1 say(97) fault()=NONE judge(0)=0 judge(1)=1");
        run("pad(b0m) wipe()=3 say(98) fault()=NONE judge(0)=NONE done()=1 told(5)=0");
        sentence("7: nothing but the PAD is wiped");
        run("house(0, true, true, 5) seen(1, true) image(0) pad(b) wipe()=1 told(20)=5 told(3)=1 told(6)=1 restore(0)=1");
    }

    // ---- Promise 8

    private static boolean isHouse(int code) {
        return code >= 97 && code <= 108;
    }

    private static boolean beginsAct(int code) {
        return isHouse(code) || code >= 48 && code <= 53 || code == 33 || code == 46;
    }

    private static void fault() {
        sentence("8: an empty PAD has none");
        run("fault()=NONE pad(m) fault()=0 wipe()=1 fault()=NONE");
        sentence("8: each sign where an ACT begins: a to l, 0 to 5, ! and . alone can stand there");
        for (int code = 33; code <= 126; code++) {
            String first = code == 33 ? "1" : beginsAct(code) ? "NONE" : "0";
            String second = code == 33 ? "2" : beginsAct(code) ? "NONE" : "1";
            String third = code == 33 ? "3" : beginsAct(code) ? "NONE" : "2";
            run("say(" + code + ") fault()=" + first);
            run("pad(.) say(" + code + ") fault()=" + second);
            run("pad(!l) say(" + code + ") fault()=" + third);
        }
        sentence("8: each sign behind !: a to l alone can stand there");
        for (int code = 33; code <= 126; code++) {
            run("pad(!) say(" + code + ") fault()=" + (isHouse(code) ? "NONE" : "1"));
        }
        sentence("8: the first of several");
        run("pad(m~) fault()=0 pad(.m~) fault()=1 pad(!!a) fault()=1 pad(!a!m!) fault()=3 pad(!0!) fault()=1");
        sentence("8: the number of signs, if more must come");
        run("pad(!) fault()=1 pad(a!) fault()=2 pad(!a!) fault()=3");
        run("pad(" + ".".repeat(59) + "!) fault()=60 pad(" + ".".repeat(58) + "!a) fault()=NONE pad(" + "!l".repeat(30)
            + ") fault()=NONE pad(" + ".".repeat(59) + "m) fault()=59");
        sentence("8: an ACT that can not be is no FAULT");
        run("pad(aa) fault()=NONE pad(00) fault()=NONE");
        run(DAY_99 + "fault()=NONE");
    }

    // ---- Promise 9

    private static void judge() {
        sentence("9: what is 0 or 1, else OUTSIDE");
        ends("judge(#)", 0, 1, "OUTSIDE");
        sentence("9: NO, if there is a FAULT; a text without one is judged");
        run("pad(m) judge(0)!NO judge(1)!NO pad(a) judge(0)=0 judge(1)=1");
        run("pad(b!) judge(0)!NO judge(1)!NO pad(b!c) judge(0)=NONE judge(1)=NONE");
        run("pad(aam) judge(0)!NO judge(1)!NO pad(aa) judge(0)=0");
        sentence("9: NONE, if each ACT can be, and of an empty PAD");
        run("judge(0)=NONE judge(1)=NONE pad(b0.!c) judge(0)=NONE judge(1)=NONE");
        sentence("9: reason 1: HE stands there already");
        run("pad(a) judge(0)=0 judge(1)=1 pad(b) judge(0)=NONE pad(ba) judge(0)=NONE pad(bb) judge(0)=1 judge(1)=1");
        run("set(2, 11) pad(l) judge(0)=0 judge(1)=1 pad(k) judge(0)=NONE pad(kl) judge(0)=NONE pad(al) judge(0)=NONE");
        sentence("9: the window of where HE stands is no going");
        run("pad(!a!a!a) judge(0)=NONE judge(1)=NONE");
        sentence("9: reason 2: the LETTER is READ already");
        run("pad(00) judge(0)=1 judge(1)=2 pad(55) judge(0)=1 judge(1)=2 pad(05) judge(0)=NONE pad(012345) judge(0)=NONE");
        run("pad(5) done()=1 judge(0)=NONE pad(5) judge(0)=0 judge(1)=2 pad(4) judge(0)=NONE letter(5, 0, 0, 0, 0) pad(5) judge(0)=NONE");
        sentence("9: ACTS are counted, not signs");
        run("pad(!a!b!cdd) judge(0)=4 judge(1)=1 pad(!a00) judge(0)=2 judge(1)=2");
        sentence("9: the first of several, and its reason");
        run("pad(a00) judge(0)=0 judge(1)=1 pad(b00b) judge(0)=2 judge(1)=2 pad(bb00) judge(0)=1 judge(1)=1");
        sentence("9: the last ACT of a full PAD");
        run("pad(" + "ba".repeat(30) + ") judge(0)=NONE pad(" + "ba".repeat(29) + "bb) judge(0)=59 judge(1)=1");
        run("pad(" + "!a".repeat(29) + "ba) judge(0)=NONE pad(" + "!a".repeat(29) + "bb) judge(0)=30 judge(1)=1");
    }

    // ---- Promises 9, 10, 12: day 99

    private static void days() {
        sentence("9: reason 3: it is day 99; on day 98 there is an evening");
        run(evenings(60) + "done()=60 " + evenings(38) + "done()=38 told(2)=98 pad(.) judge(0)=NONE judge(1)=NONE behind(1)=99"
            + " pad(..) judge(0)=1 judge(1)=3 done()!NO behind(1)!NO knows(0)!NO told(2)=98 pad(.) done()=1 told(2)=99"
            + " pad(.) judge(0)=0 judge(1)=3 done()!NO knows(0)!NO behind(0)!NO");
        sentence("9: 60 evenings of a full PAD can be on day 39, not on day 40");
        run(evenings(39) + "done()=39 " + evenings(60) + "judge(0)=NONE done()=60 told(2)=99");
        run(evenings(40) + "done()=40 " + evenings(60) + "judge(0)=59 judge(1)=3 done()!NO told(2)=40");
        sentence("9: other ACTS can be on day 99");
        run(DAY_99 + "pad(b0!c) judge(0)=NONE behind(1)=99 done()=3 told(1)=1 told(2)=99 told(3)=4 told(5)=1");
    }

    // ---- Promise 10

    private static void done() {
        sentence("10: an empty PAD: no ACTS");
        run("done()=0 told(0)=0 told(2)=0");
        sentence("10: 60 ACTS at most, a window's two signs are one");
        run(evenings(60) + "done()=60 told(2)=60 told(0)=0");
        run("pad(" + "!a".repeat(30) + ") done()=30 told(3)=0 pad(" + "!l".repeat(29) + ".) done()=30 told(3)=2048 told(2)=1");
        sentence("10: NO, if there is a FAULT: nothing ahead of it is DONE");
        run("pad(b0.!cm) done()!NO told(1)=0 told(5)=0 told(2)=0 told(3)=0 told(0)=6 pad(b0.!c) done()=4");
        run("pad(b0.!) done()!NO told(0)=4 say(99) done()=4 told(0)=0 told(3)=4");
        sentence("10: NO, if an ACT can not be: nothing ahead of it is DONE");
        run("pad(b0.!cb) done()!NO told(1)=0 told(5)=0 told(2)=0 told(3)=0 told(0)=6 pad(b0.!ca) done()=5 told(1)=0 told(5)=1");
        sentence("10: the PAD is empty then");
        run("pad(b) done()=1 told(0)=0 fault()=NONE judge(0)=NONE done()=0 told(1)=1");
        sentence("10: a window that was OPEN is not any more");
        run("house(0, true, false, 0) house(11, true, false, 0) pad(!a!l) done()=2 told(3)=0 pad(!a!l) done()=2 told(3)=2049");
        sentence("10: SIGHTS stay");
        run("seen(0, true) pad(b) done()=1 told(6)=1 at()=3");
    }

    // ---- Promise 11

    private static void knows() {
        sentence("11: HOUSES 0 to 11, else UNKNOWN, NO or not");
        ends("knows(#)", 0, 11, "UNKNOWN");
        sentence("11: NO, as of done()");
        for (int h = 0; h < 12; h += 11) {
            run("pad(m) knows(" + h + ")!NO pad(b!) knows(" + h + ")!NO pad(a) knows(" + h + ")!NO pad(00) knows(" + h + ")!NO"
                + " pad(b) knows(" + h + ")=0");
            run(DAY_99 + "knows(" + h + ")!NO wipe() knows(" + h + ")=0");
        }
        sentence("11: of an empty PAD what it KNOWS now");
        run("house(0, false, false, 255) house(11, false, false, 128) knows(0)=255 knows(11)=128 knows(1)=0");
    }

    private static void readings() {
        sentence("1: who HEARS KNOWS the PLAIN FACTS then, nobody else");
        run("set(2, 5) letter(0, 9, 255, 0, 4095) pad(0) knows(3)=0 knows(4)=255 knows(5)=255 knows(6)=255 knows(7)=0 knows(9)=0");
        sentence("1: at the first and the last HOUSE of the row");
        run("letter(0, 0, 1, 0, 0) pad(0) knows(0)=1 knows(1)=1 knows(2)=0 knows(11)=0 pad(l0) knows(11)=1 knows(10)=1 knows(9)=0 knows(0)=0");
        sentence("1: FACTS in CIPHER, if it is one of the KEYS and HEARS");
        run("letter(0, 0, 1, 128, 1) pad(0) knows(0)=129 knows(1)=1 knows(2)=0");
        run("set(2, 11) letter(0, 0, 1, 128, 2048) pad(0) knows(11)=129 knows(10)=1");
        run("set(2, 5) letter(0, 0, 0, 128, 4095) pad(0) knows(3)=0 knows(4)=128 knows(5)=128 knows(6)=128 knows(7)=0");
        run("set(2, 5) letter(0, 5, 0, 128, 0) pad(0) knows(5)=0 behind(2)=1");
        run("set(2, 5) letter(0, 5, 4, 6, 32) pad(0) knows(5)=6 knows(4)=4");
        sentence("1: the DEAF HEAR nothing, with a KEY or without, at their own door too");
        run("house(0, true, true, 2) letter(0, 0, 1, 128, 4095) pad(0) knows(0)=2 knows(1)=129");
        sentence("1: FACTS come to those that it KNOWS");
        run("house(0, false, false, 64) letter(0, 0, 1, 0, 0) pad(0) knows(0)=65 done() told(20)=65");
        sentence("1: 1 loud at least, if the window is OPEN when it is read");
        run("letter(0, 0, 1, 0, 0) pad(!d0) knows(3)=1 pad(!e0) knows(4)=0 pad(0) knows(3)=0 pad(!d!d0) knows(3)=0"
            + " pad(0!d) knows(3)=0 house(3, true, false, 0) pad(0) knows(3)=1 pad(!d0) knows(3)=0");
        sentence("1: 3 loud at least, if the window is shut");
        run("letter(0, 0, 1, 0, 0) pad(0) knows(1)=1 knows(2)=0 set(0, 5) knows(2)=1 knows(3)=0 set(0, 3) knows(1)=0 knows(0)=1");
        sentence("1: a LETTER without FACTS is READ, too");
        run("pad(0) done()=1 told(5)=1 told(20)=0");
    }

    private static void evenings() {
        sentence("1: a WALL 4 thick at most lets neighbours tell, one of 5 does not: each WALL, both ways");
        for (int w = 0; w < 11; w++) {
            for (int teller = w; teller <= w + 1; teller++) {
                int other = 2 * w + 1 - teller;
                StringBuilder script = new StringBuilder("house(" + teller + ", false, false, 255) pad(.) ");
                for (int thick = 0; thick <= 9; thick++) {
                    script.append("wall(" + w + ", " + thick + ") knows(" + other + ")=" + (thick <= 4 ? 255 : 0) + " ");
                }
                run(script.toString());
            }
        }
        sentence("1: what they knew ahead of the evening: it goes one HOUSE an evening");
        run("house(0, false, false, 1) pad(.) knows(1)=1 knows(2)=0 pad(..) knows(2)=1 knows(3)=0 " + evenings(10)
            + "knows(10)=1 knows(11)=0 " + evenings(11) + "knows(11)=1");
        run("house(11, false, false, 1) pad(.) knows(10)=1 knows(9)=0 pad(..) knows(9)=1 knows(8)=0 " + evenings(10)
            + "knows(1)=1 knows(0)=0 " + evenings(11) + "knows(0)=1");
        sentence("1: the first and the last HOUSE are not beside each other");
        run("house(0, false, false, 1) pad(.) knows(11)=0 knows(1)=1");
        run("house(11, false, false, 1) pad(.) knows(0)=0 knows(10)=1");
        sentence("1: from both sides");
        run("house(4, false, false, 15) house(5, false, false, 16) house(6, false, false, 224) pad(.) knows(5)=255 knows(4)=31 knows(6)=240");
        sentence("1: the DEAF come to know nothing, but tell");
        run("house(0, false, true, 1) house(1, false, false, 2) pad(.) knows(0)=1 knows(1)=3");
        run("house(11, false, true, 1) house(10, false, false, 2) pad(.) knows(11)=1 knows(10)=3");
        run("house(4, false, false, 1) house(5, false, true, 0) " + evenings(20) + "knows(5)=0 knows(6)=0 knows(0)=1");
        sentence("1: the day is the next one, what is heard on it comes behind it");
        run("letter(0, 0, 1, 0, 0) pad(.0) behind(1)=1 knows(2)=0 pad(0.) behind(1)=1 knows(2)=1");
    }

    // ---- Promise 12

    private static void behind() {
        sentence("12: what is 0 to 3, else OUTSIDE, NO or not");
        ends("behind(#)", 0, 3, "OUTSIDE");
        sentence("12: NO, likewise");
        run("pad(m) " + forAll("behind(#)!NO ", 4) + "wipe() behind(3)=NONE");
        run("pad(b!) " + forAll("behind(#)!NO ", 4) + "say(97) behind(0)=1");
        run("pad(a) " + forAll("behind(#)!NO ", 4) + "pad(b) behind(0)=1");
        run(DAY_99 + forAll("behind(#)!NO ", 4) + "wipe() behind(1)=99");
        sentence("12: of an empty PAD it is as now");
        run("set(2, 11) behind(0)=11 behind(1)=0 behind(2)=0 behind(3)=NONE");
        sentence("12: where, from end to end");
        run("pad(l) behind(0)=11 pad(la) behind(0)=0 told(1)=0");
        sentence("12: READ, from none to all six, those READ now too");
        run("pad(b) behind(2)=0 pad(5) behind(2)=32 pad(012345) behind(2)=63 pad(0) done() pad(5) behind(2)=33 told(5)=1");
        sentence("12: astray: NONE without a reading, and if each one is heard");
        run("pad(b.!c) behind(3)=NONE pad(012345) behind(3)=NONE");
        sentence("12: astray: the first ACT, and the last of a full PAD");
        run("letter(0, 11, 0, 0, 0) pad(0) behind(3)=0 pad(" + "ba".repeat(29) + "b0) behind(3)=59");
        run("letter(0, 11, 0, 0, 0) pad(" + "!a".repeat(29) + ".0) behind(3)=30");
        sentence("12: astray: the first of several");
        run("letter(1, 11, 0, 0, 0) letter(2, 10, 0, 0, 0) pad(0.1b2) behind(3)=2 pad(0.2b1) behind(3)=2 pad(0l.12) behind(3)=NONE");
        sentence("12: astray: 3 loud with the window shut is heard, 2 loud is not");
        run("letter(0, 1, 0, 0, 0) pad(0) behind(3)=NONE letter(0, 2, 0, 0, 0) behind(3)=0");
        sentence("12: astray: 1 loud with the window OPEN is heard, 0 is not");
        run("letter(0, 3, 0, 0, 0) pad(!d0) behind(3)=NONE letter(0, 4, 0, 0, 0) pad(!e0) behind(3)=1");
        sentence("12: astray: at the own door it is heard, however low, but not by the DEAF");
        run("set(0, 1) pad(0) behind(3)=NONE house(0, true, true, 0) behind(3)=0");
        sentence("12: astray: windows as they are at that ACT");
        run("letter(0, 2, 0, 0, 0) pad(!c0) behind(3)=NONE pad(0!c) behind(3)=0 pad(!c!c0) behind(3)=2");
    }

    // ---- Promise 13

    private static void who() {
        sentence("13: FACTS 0 to 7, else UNKNOWN");
        ends("who(#)", 0, 7, "UNKNOWN");
        sentence("13: none, the first and the last HOUSE, all; the first and the last FACT");
        run("house(0, false, false, 1) house(11, false, true, 129) who(0)=2049 who(7)=2048 who(1)=0 who(6)=0");
        run(allHouses("house(#, false, false, 255) ") + forAll("who(#)=4095 ", 8));
        sentence("13: now, not BEHIND");
        run("house(0, false, false, 1) pad(.) who(0)=1 done() who(0)=3");
    }

    // ---- Promise 14

    private static void loud() {
        sentence("14: both HOUSES 0 to 11, else UNKNOWN");
        ends("loud(#, 0)", 0, 11, "UNKNOWN");
        ends("loud(0, #)", 0, 11, "UNKNOWN");
        ends("loud(#, 11)", 0, 11, "UNKNOWN");
        ends("loud(11, #)", 0, 11, "UNKNOWN");
        refusedAlways("loud(12, 12)", "UNKNOWN");
        refusedAlways("loud(MIN, MAX)", "UNKNOWN");
        sentence("14: as loud as the VOICE where he stands, from 1 to 40");
        run("set(0, 1) loud(0, 0)=1 loud(11, 11)=1 set(0, 40) loud(0, 0)=40 loud(11, 11)=40 loud(0, 11)=29 loud(11, 0)=29");
        sentence("14: 0 at least, going east and going west");
        run("loud(0, 3)=1 loud(0, 4)=0 loud(0, 5)=0 loud(0, 11)=0 loud(11, 8)=1 loud(11, 7)=0 loud(11, 6)=0 loud(11, 0)=0");
        sentence("14: 0 at least, through a WALL");
        run("wall(0, 2) loud(0, 1)=1 loud(1, 0)=1 wall(0, 3) loud(0, 1)=0 loud(1, 0)=0 wall(0, 4) loud(0, 1)=0 wall(0, 9) loud(0, 1)=0 loud(1, 0)=0");
        sentence("14: 0 at least, against the strongest WIND and through the thickest WALL");
        run("wall(10, 9) set(1, 3) set(0, 13) loud(11, 10)=0 set(0, 14) loud(11, 10)=1 set(0, 12) loud(11, 10)=0 set(0, 40) loud(11, 10)=27");
        run("wall(0, 9) set(1, -3) set(0, 13) loud(0, 1)=0 set(0, 14) loud(0, 1)=1 set(0, 12) loud(0, 1)=0 set(0, 40) loud(0, 1)=27");
        sentence("14: it never grows, going east");
        run("set(1, 0) loud(0, 1)=3 set(1, 1) loud(0, 1)=4 loud(0, 11)=4 set(1, 2) loud(0, 1)=4 loud(0, 11)=4 set(1, 3) loud(0, 1)=4 loud(0, 11)=4");
        run("set(1, 3) wall(0, 1) loud(0, 1)=4 wall(0, 2) loud(0, 1)=4 wall(0, 3) loud(0, 1)=3");
        sentence("14: it never grows, going west");
        run("set(1, 0) loud(11, 10)=3 set(1, -1) loud(11, 10)=4 loud(11, 0)=4 set(1, -2) loud(11, 10)=4 set(1, -3) loud(11, 10)=4 loud(11, 0)=4");
        run("set(1, -3) wall(10, 1) loud(11, 10)=4 wall(10, 2) loud(11, 10)=4 wall(10, 3) loud(11, 10)=3");
        sentence("14: what a WALL took does not come back with the WIND");
        run("set(0, 8) set(1, 3) wall(0, 9) loud(0, 1)=1 loud(0, 2)=1 loud(0, 11)=1 set(0, 7) loud(0, 1)=0 loud(0, 2)=0 loud(0, 11)=0");
        run("set(0, 8) set(1, -3) wall(10, 9) loud(11, 10)=1 loud(11, 9)=1 loud(11, 0)=1 set(0, 7) loud(11, 10)=0 loud(11, 0)=0");
        sentence("14: against the WIND it is less by it");
        run("set(0, 40) set(1, 3) loud(11, 10)=36 loud(11, 2)=4 loud(11, 1)=0 loud(11, 0)=0 set(1, -3) loud(0, 1)=36 loud(0, 9)=4 loud(0, 10)=0 loud(0, 11)=0");
        sentence("14: of DEAF HOUSES and OPEN windows alike");
        run("house(1, true, true, 0) loud(0, 1)=3 loud(1, 1)=4 loud(0, 2)=2");
    }

    // ---- Promise 15

    private static void hears() {
        sentence("15: HOUSES 0 to 11, else UNKNOWN");
        ends("hears(#)", 0, 11, "UNKNOWN");
        sentence("15: shut: 3 loud is heard, 2 is not; at both ends of the row");
        run("hears(0)=0b11 hears(11)=0b110000000000 hears(5)=0b1110000 set(0, 5) hears(0)=0b111 set(0, 3) hears(0)=1 hears(5)=0b100000");
        sentence("15: OPEN: 1 loud is heard, 0 is not");
        run(allHouses("house(#, true, false, 0) ") + "hears(0)=0b1111 hears(11)=0b111100000000 hears(5)=0b111111100 set(0, 1) hears(0)=1 set(0, 2) hears(0)=3");
        sentence("15: HE stands there: 1 and 2 loud are heard with the window shut");
        run("set(0, 1) hears(0)=1 hears(11)=2048 set(0, 2) hears(0)=1 hears(11)=2048");
        sentence("15: where HE stands now is not where one reads");
        run("set(0, 1) set(2, 11) hears(0)=1 hears(5)=32");
        sentence("15: the DEAF do not, however loud, OPEN, at their own door");
        run("set(0, 40) hears(0)=4095 house(0, true, true, 0) hears(0)=4094 hears(11)=4094 house(11, false, true, 0) hears(11)=2046");
        run(ALL_DEAF + "set(0, 40) hears(0)=0 hears(5)=0 hears(11)=0");
        sentence("15: the WIND carries 3 loud to the end, 2 loud to OPEN windows alone");
        run("set(1, 1) set(0, 3) hears(0)=4095 hears(11)=2048 set(0, 2) hears(0)=1 house(11, true, false, 0) hears(0)=2049");
        run("set(1, -1) set(0, 3) hears(11)=4095 hears(0)=1 set(0, 2) hears(11)=2048 house(0, true, false, 0) hears(11)=2049");
    }

    // ---- Promise 16

    private static void best() {
        sentence("16: LETTERS 0 to 5, else UNKNOWN");
        ends("best(#, 0)", 0, 5, "UNKNOWN");
        ends("best(#, 1)", 0, 5, "UNKNOWN");
        sentence("16: what is 0 or 1, else OUTSIDE");
        ends("best(0, #)", 0, 1, "OUTSIDE");
        ends("best(5, #)", 0, 1, "OUTSIDE");
        sentence("16: NONE, if the one that it is FOR is DEAF");
        run("house(0, true, true, 0) best(0, 0)=NONE best(0, 1)=NONE house(0, true, false, 0) best(0, 0)=1 best(0, 1)=0");
        run(GREATEST + "best(5, 0)=NONE best(5, 1)=NONE");
        sentence("16: no others at the least, all eleven at the most");
        run("set(0, 1) letter(5, 11, 0, 0, 0) best(0, 0)=0 best(0, 1)=0 best(5, 0)=0 best(5, 1)=11 set(0, 40) best(0, 0)=11 best(0, 1)=0 best(5, 0)=11 best(5, 1)=0");
        sentence("16: the least of several");
        run("letter(0, 5, 0, 0, 0) best(0, 0)=2 best(0, 1)=4 letter(0, 1, 0, 0, 0) best(0, 0)=1 best(0, 1)=0 letter(0, 11, 0, 0, 0) best(0, 0)=1 best(0, 1)=11");
        sentence("16: fewer further east is better than the least HOUSE");
        run("letter(0, 5, 0, 0, 0) house(7, false, true, 0) best(0, 0)=1 best(0, 1)=6");
        sentence("16: READ already or not");
        run("letter(0, 5, 0, 0, 0) pad(0) done()=1 best(0, 0)=2 best(0, 1)=4");
        sentence("16: as things are now, not BEHIND, wherever HE stands");
        run("letter(0, 2, 0, 0, 0) best(0, 0)=2 best(0, 1)=1 pad(!e!d) best(0, 0)=2 set(2, 11) best(0, 1)=1");
    }

    // ---- Promise 17

    private static void thirds() {
        sentence("17: HOUSES 0 to 11, else UNKNOWN");
        ends("thirds(#, 0)", 0, 11, "UNKNOWN");
        ends("thirds(#, 1)", 0, 11, "UNKNOWN");
        sentence("17: what is 0 or 1, else OUTSIDE");
        ends("thirds(0, #)", 0, 1, "OUTSIDE");
        ends("thirds(11, #)", 0, 1, "OUTSIDE");
        sentence("17: none: 0 threes, the first is NONE");
        run("thirds(0, 0)=0 thirds(0, 1)=NONE thirds(11, 0)=0 thirds(11, 1)=NONE");
        run("set(0, 40) thirds(5, 0)=0 thirds(5, 1)=NONE");
        run(ALL_DEAF + "thirds(0, 0)=0 thirds(0, 1)=NONE");
        sentence("17: one: p, q and r alike, the first three is 0 and the last 111111");
        run("set(0, 1) thirds(0, 0)=1 thirds(0, 1)=0 thirds(5, 1)=50505 thirds(11, 0)=1 thirds(11, 1)=111111");
        sentence("17: all 364 threes");
        run("set(0, 40) " + allHouses("house(#, true, true, 0) ") + "house(5, false, false, 0) thirds(5, 0)=364 thirds(5, 1)=0 thirds(4, 0)=0 thirds(6, 1)=NONE");
        sentence("17: p at most q at most r, the least first");
        run("thirds(1, 0)=3 thirds(1, 1)=2 thirds(10, 0)=3 thirds(10, 1)=90911 thirds(5, 0)=3 thirds(5, 1)=40406");
        sentence("17: the told one HEARS all three, too");
        run("house(5, false, true, 0) thirds(5, 0)=0 thirds(5, 1)=NONE");
    }

    // ---- Promise 18

    private static void round() {
        sentence("18: the set is 0 to 63, else UNKNOWN");
        ends("round(#, 0)", 0, 63, "UNKNOWN");
        ends("round(#, 1)", 0, 63, "UNKNOWN");
        sentence("18: what is 0 or 1, else OUTSIDE");
        ends("round(0, #)", 0, 1, "OUTSIDE");
        ends("round(63, #)", 0, 1, "OUTSIDE");
        sentence("18: no LETTERS: no steps, HE stays, though all are DEAF");
        run("round(0, 0)=0 round(0, 1)=0 set(2, 11) round(0, 0)=0 round(0, 1)=11");
        run(ALL_DEAF + "set(2, 6) round(0, 0)=0 round(0, 1)=6");
        sentence("18: NONE, if one of them is FOR a DEAF one; not for others");
        run("letter(5, 11, 0, 0, 0) house(11, true, true, 0) round(32, 0)=NONE round(32, 1)=NONE round(63, 0)=NONE round(63, 1)=NONE round(31, 0)=0 round(31, 1)=0");
        sentence("18: from end to end");
        run("set(0, 1) letter(0, 11, 0, 0, 0) round(1, 0)=11 round(1, 1)=0 round(62, 0)=0 set(2, 11) round(62, 0)=11 round(62, 1)=0 round(1, 0)=0 round(1, 1)=11 round(63, 0)=11 round(63, 1)=0");
        sentence("18: one step from the first HOUSE, and from the last");
        run("set(0, 1) letter(0, 1, 0, 0, 0) letter(1, 10, 0, 0, 0) round(1, 0)=1 round(1, 1)=0 set(2, 11) round(2, 0)=1 round(2, 1)=10 set(2, 10) letter(2, 11, 0, 0, 0) round(4, 0)=1 round(4, 1)=10 set(2, 1) round(8, 0)=1 round(8, 1)=0");
        sentence("18: to both ends, the nearer first");
        run("set(0, 1) letter(0, 11, 0, 0, 0) set(2, 5) round(63, 0)=16 round(63, 1)=0 set(2, 6) round(63, 0)=16 round(63, 1)=0 set(2, 1) round(63, 0)=12 set(2, 10) round(63, 0)=12 set(2, 0) round(63, 0)=11");
        sentence("18: only as far as it is heard, from the west and from the east");
        run("letter(0, 5, 0, 0, 0) round(1, 0)=4 round(1, 1)=0 set(2, 11) round(1, 0)=5 round(1, 1)=6 house(5, true, false, 0) round(1, 0)=3 round(1, 1)=8 set(2, 0) round(1, 0)=2 round(1, 1)=0");
        sentence("18: heard where HE stands: no steps");
        run("letter(0, 5, 0, 0, 0) set(2, 4) round(1, 0)=0 round(1, 1)=4 set(2, 6) round(1, 0)=0 round(1, 1)=6 set(2, 3) round(1, 0)=1 round(1, 1)=3 set(2, 7) round(1, 0)=1 round(1, 1)=6");
        sentence("18: READ already or not");
        run("letter(0, 5, 0, 0, 0) pad(0) done()=1 round(1, 0)=4");
    }

    // ---- Promise 19

    private static void seen() {
        sentence("19: HOUSES 0 to 11, else UNKNOWN, FULL or not");
        for (String state : STATES) {
            for (int n : outside(0, 11)) {
                refused(state, "seen(" + n + ", true)", "UNKNOWN");
                refused(state, "seen(" + n + ", false)", "UNKNOWN");
            }
        }
        run("seen(0, true)=1 seen(11, true)=2 seen(0, false)=3 seen(11, false)=4");
        sentence("19: 8 at most, else FULL");
        run("6*seen(0, true) seen(0, true)=7 seen(11, false)=8 seen(0, true)!FULL seen(11, false)!FULL seen(5, true)!FULL told(6)=8");
        sentence("19: the eighth counts, the ninth does not");
        run("7*seen(5, true) at()=112 seen(4, false)=8 at()=64 seen(6, false)!FULL at()=64");
        sentence("19: behind a forget there is room again");
        run("8*seen(0, true) seen(1, true)!FULL forget()=8 seen(1, true)=1");
    }

    // ---- Promise 20

    private static void forget() {
        sentence("20: of none, of one and of 8");
        run("forget()=0 seen(0, true) forget()=1 forget()=0 8*seen(0, false) forget()=8 forget()=0 told(6)=0 at()=4095");
        sentence("20: nothing of the old SIGHTS stays");
        run("seen(0, true) seen(11, false) forget()=2 at()=4095 seen(5, true)=1 at()=112");
    }

    // ---- Promise 21

    private static void at() {
        sentence("21: all HOUSES without a SIGHT, none if no HOUSE fits");
        run("at()=4095 seen(0, true) at()=3 seen(0, false) at()=0");
        run("seen(0, true) seen(11, true) at()=0");
        sentence("21: the first and the last HOUSE HEARD it, or did not");
        run("seen(0, true) at()=3 forget() seen(0, false) at()=4092 forget() seen(11, true) at()=3072 forget() seen(11, false) at()=1023");
        sentence("21: a DEAF one never HEARD it");
        run("house(0, true, true, 0) seen(0, true) at()=0 forget() seen(0, false) at()=4095");
        sentence("21: shut 3 loud, OPEN 1 loud: as things are now, for SIGHTS told before, too");
        run("seen(5, true) at()=112 house(5, true, false, 0) at()=0b111111100 set(0, 40) at()=4095 set(0, 1) at()=32");
        sentence("21: where HE stands and what the PAD says are nothing to it");
        run("seen(5, true) set(2, 11) pad(!f) at()=112");
    }

    // ---- Promise 22

    private static void ask() {
        sentence("22: what is 0 or 1, else OUTSIDE");
        ends("ask(#)", 0, 1, "OUTSIDE");
        sentence("22: NONE, if no HOUSE fits; of one that fits 1 is left");
        run("seen(5, true) seen(4, false) at()=64 ask(0)=0 ask(1)=1 seen(0, true) at()=0 ask(0)=NONE ask(1)=NONE");
        sentence("22: all twelve are left, if no answer tells anything: the least HOUSE");
        run(ALL_DEAF + "at()=4095 ask(0)=0 ask(1)=12");
        run("set(0, 40) at()=4095 ask(0)=0 ask(1)=12");
        sentence("22: halves, if it can be");
        run("set(0, 3) set(1, 1) ask(0)=5 ask(1)=6 seen(5, true) at()=63 ask(0)=2 ask(1)=3 seen(2, false) at()=56 ask(0)=3 ask(1)=2"
            + " seen(3, false) at()=48 ask(0)=4 ask(1)=1");
        run("set(0, 3) set(1, -1) ask(0)=6 ask(1)=6");
        sentence("22: the least of several");
        run("ask(0)=1 ask(1)=9 house(1, false, true, 0) ask(0)=2 ask(1)=9 house(0, true, false, 0) ask(0)=0 ask(1)=8");
    }

    // ---- Promise 23

    private static void rumour() {
        sentence("23: HOUSES 0 to 11, else UNKNOWN");
        ends("rumour(#, 0)", 0, 11, "UNKNOWN");
        ends("rumour(#, -1)", 0, 11, "UNKNOWN");
        ends("rumour(#, 20)", 0, 11, "UNKNOWN");
        sentence("23: n is 0 to 20, or -1, else OUTSIDE");
        ends("rumour(0, #)", -1, 20, "OUTSIDE");
        ends("rumour(11, #)", -1, 20, "OUTSIDE");
        sentence("23: behind no evening one alone");
        run("rumour(0, 0)=1 rumour(11, 0)=1 house(5, false, true, 0) rumour(5, 0)=1");
        sentence("23: from the ends all know behind 11 evenings, not behind 10, and no more behind 20");
        run("rumour(0, 10)=11 rumour(0, 11)=12 rumour(0, 20)=12 rumour(0, -1)=11 rumour(11, 10)=11 rumour(11, 11)=12 rumour(11, 20)=12 rumour(11, -1)=11");
        run("rumour(5, 5)=11 rumour(5, 6)=12 rumour(5, -1)=6 rumour(6, 5)=11 rumour(6, 6)=12 rumour(6, -1)=6");
        sentence("23: a WALL of 4 lets it through, one of 5 does not");
        run("wall(0, 4) rumour(0, 1)=2 rumour(0, 20)=12 wall(0, 5) rumour(0, 1)=1 rumour(0, 20)=1 rumour(0, -1)=0 rumour(11, 20)=11 rumour(11, -1)=10");
        run("wall(10, 4) rumour(11, 1)=2 rumour(11, 20)=12 wall(10, 5) rumour(11, 1)=1 rumour(11, 20)=1 rumour(11, -1)=0 rumour(0, 20)=11 rumour(0, -1)=10");
        sentence("23: nobody more comes to know it: no evening");
        run(allWalls("wall(#, 5) ") + "rumour(5, 20)=1 rumour(5, -1)=0");
        run(ALL_DEAF + "rumour(5, 20)=1 rumour(5, -1)=0");
        sentence("23: a DEAF one stops it, but tells what it knew");
        run("house(1, false, true, 0) rumour(0, 20)=1 rumour(0, -1)=0 rumour(1, 1)=3 rumour(1, 20)=12 rumour(1, -1)=10 rumour(2, 20)=10 rumour(2, -1)=9");
        sentence("23: one HOUSE alone, whatever is known, written or what day it is");
        run(allHouses("house(#, false, false, 255) ") + "pad(.) rumour(0, 0)=1 rumour(0, 1)=2");
        run(DAY_99 + "rumour(0, 0)=1 rumour(0, 1)=2 rumour(0, -1)=11");
    }

    // ---- Promise 24

    private static void chance() {
        sentence("24: HOUSES 0 to 11, else LOST and UNKNOWN");
        ends("chance(#, 5, 1, 0)", 0, 11, "UNKNOWN");
        ends("chance(#, 5, -1, 1)", 0, 11, "UNKNOWN");
        sentence("24: t is 0 to 10, else LOST and OUTSIDE");
        ends("chance(0, #, 1, 0)", 0, 10, "OUTSIDE");
        ends("chance(11, #, -1, 1)", 0, 10, "OUTSIDE");
        sentence("24: k is 0 to 11, or -1, else LOST and OUTSIDE");
        ends("chance(0, 5, #, 0)", -1, 11, "OUTSIDE");
        ends("chance(11, 10, #, 1)", -1, 11, "OUTSIDE");
        sentence("24: part is 0 or 1, else LOST and OUTSIDE");
        ends("chance(0, 5, 1, #)", 0, 1, "OUTSIDE");
        ends("chance(11, 0, -1, #)", 0, 1, "OUTSIDE");
        sentence("24: no tenths: all windows are shut");
        run("fraction(5, 0, 1)=0/1 fraction(5, 0, 2)=1/1 fraction(5, 0, -1)=2/1 fraction(0, 0, 0)=0/1 fraction(0, 0, 1)=1/1 fraction(11, 0, -1)=1/1");
        sentence("24: ten tenths: all windows are OPEN");
        run("fraction(5, 10, 5)=0/1 fraction(5, 10, 6)=1/1 fraction(5, 10, -1)=6/1 fraction(0, 10, 2)=0/1 fraction(0, 10, 3)=1/1 fraction(11, 10, -1)=3/1");
        sentence("24: eleven HEAR it for sure, or nobody does");
        run("set(0, 40) fraction(5, 5, 10)=0/1 fraction(5, 5, 11)=1/1 fraction(5, 5, -1)=11/1 set(0, 1) fraction(5, 5, 0)=1/1 fraction(5, 5, 11)=1/1 fraction(5, 5, -1)=0/1");
        run(ALL_DEAF + "fraction(5, 10, 0)=1/1 fraction(5, 10, -1)=0/1");
        sentence("24: eleven windows by chance, in lowest terms, from both ends");
        for (int at = 0; at < 12; at += 11) {
            String wind = "set(0, 2) set(1, " + (at == 0 ? 1 : -1) + ") ";
            run(wind + ("fraction(#, 1, 0)=31381059609/100000000000 fraction(#, 9, 0)=1/100000000000"
                + " fraction(#, 9, 10)=68618940391/100000000000 fraction(#, 9, 11)=1/1 fraction(#, 5, 0)=1/2048"
                + " fraction(#, 5, 1)=3/512 fraction(#, 5, 10)=2047/2048 fraction(#, 2, 0)=4194304/48828125"
                + " fraction(#, 1, -1)=11/10 fraction(#, 5, -1)=11/2 fraction(#, 2, -1)=11/5 fraction(#, 10, -1)=11/1"
                + " fraction(#, 0, -1)=0/1 fraction(#, 0, 0)=1/1 fraction(#, 10, 10)=0/1").replace("#", "" + at));
        }
        sentence("24: 1 loud is heard by chance, 3 loud for sure, 0 never");
        // west of f nothing is heard; g is 3, 2, 1, 0 loud, h is 1 less
        run("wall(4, 9) fraction(5, 3, 0)=0/1 fraction(5, 3, 1)=49/100 fraction(5, 3, -1)=8/5 wall(5, 1) fraction(5, 3, 0)=49/100"
            + " fraction(5, 3, -1)=3/5 wall(5, 2) fraction(5, 3, 0)=7/10 fraction(5, 3, -1)=3/10 wall(5, 3) fraction(5, 3, 0)=1/1 fraction(5, 3, -1)=0/1");
        sentence("24: whatever windows are now, and whether the one where it is read is DEAF");
        run("fraction(0, 5, 1)=1/4 " + allHouses("house(#, true, false, 0) ") + "fraction(0, 5, 1)=1/4 house(0, true, true, 0) fraction(0, 5, 1)=1/4 fraction(0, 5, -1)=2/1");
        sentence("24: the DEAF never HEAR it");
        run("house(1, false, true, 0) fraction(0, 5, 0)=1/4 house(2, false, true, 0) fraction(0, 5, 0)=1/2 house(3, false, true, 0) fraction(0, 5, 0)=1/1");
    }

    // ---- Promise 25

    private static void year() {
        sentence("25: the seed is 0 to 9999, else OUTSIDE");
        ends("year(#, 1, 0)", 0, 9999, "OUTSIDE");
        sentence("25: m is 1 to 99, else OUTSIDE");
        ends("year(0, #, 1)", 1, 99, "OUTSIDE");
        sentence("25: what is 0 to 2, else OUTSIDE");
        ends("year(9999, 99, #)", 0, 2, "OUTSIDE");
        sentence("25: 75 x and 74: the first and the last seed");
        // 74: to j; 749999 left over by 65537 is 29092: to a
        run("year(0, 1, 1)=9 set(2, 5) year(9999, 1, 1)=0");
        sentence("25: left over by 65537");
        // 65474, just short of it: to a; 65549 is 12: to b
        run("set(2, 5) year(872, 1, 1)=0 year(873, 1, 1)=1");
        sentence("25: by x left over by 8: each of the eight");
        // one evening (224), the window of c (6449) ahead of LETTER 3, going to j (74), b (299), f (524)
        run("house(0, false, false, 1) year(2, 1, 0)=2 letter(3, 0, 1, 0, 0) year(85, 1, 2)=0 year(0, 1, 1)=9 year(3, 1, 1)=1 year(6, 1, 1)=5");
        // LETTERS 0 (149), 4 (374), 2 (599)
        run("letter(0, 0, 1, 0, 0) letter(4, 0, 2, 0, 0) letter(2, 0, 255, 0, 0) year(1, 1, 2)=1 year(1, 1, 0)=2 year(4, 1, 0)=2 year(4, 1, 2)=1 year(7, 1, 0)=16 year(7, 1, 2)=1");
        sentence("25: a window that was OPEN is not any more");
        run("letter(3, 0, 1, 0, 0) year(85, 2, 0)=3 house(2, true, false, 0) year(85, 2, 0)=2");
        sentence("25: the first and the last HOUSE and LETTER");
        // 8: to a (674); 22: to l (1724); 15: LETTER 5 (1199); 1: LETTER 0
        run("set(2, 5) year(8, 1, 1)=0 year(22, 1, 1)=11 letter(5, 0, 1, 0, 0) year(15, 1, 0)=3 year(15, 1, 2)=1");
        sentence("25: m ACTS: 98 and 99 are not the same");
        run("year(9999, 98, 1)=9 year(9999, 99, 1)=11");
        sentence("25: left out: HE stands there already");
        // 54: to l and to l again; 0: to j, then an evening
        run("year(54, 2, 1)=11 set(2, 9) house(9, false, false, 1) year(0, 1, 1)=9 year(0, 2, 0)=3");
        sentence("25: left out: the LETTER is READ already");
        // 7: LETTER 2, and again
        run("letter(2, 0, 1, 0, 0) year(7, 2, 2)=1 year(7, 2, 0)=2 pad(2) done()=1 year(7, 1, 2)=1 year(7, 1, 0)=2 house(0, false, false, 0) house(1, false, false, 0) year(7, 1, 0)=0 year(1, 1, 2)=2");
        sentence("25: left out: it is day 99; on day 98 one evening of two");
        // 26: an evening, and another
        run("house(0, false, false, 1) year(26, 1, 0)=2 year(26, 2, 0)=3");
        run(evenings(60) + "done() " + evenings(38) + "done() told(2)=98 house(0, false, false, 1) year(26, 1, 0)=2 year(26, 2, 0)=2 pad(.) done()=1 house(1, false, false, 0) told(2)=99 year(26, 1, 0)=1 year(26, 2, 0)=1");
        sentence("25: behind what is left out it goes on");
        // 2: an evening, to j
        run(DAY_99 + "year(2, 2, 1)=9");
        sentence("25: all FACTS of all HOUSES are 96, all LETTERS 6");
        run(allHouses("house(#, false, false, 255) ") + "pad(012345) done()=6 year(0, 99, 0)=96 year(0, 99, 2)=6");
        sentence("25: from all as it is, whatever the PAD says");
        run("set(2, 4) pad(m) year(1, 1, 1)=4 pad(b) year(1, 1, 1)=4");
    }

    // ---- Promises 26 and 27

    private static void image() {
        sentence("26: IMAGES 0 and 1, else OUTSIDE");
        ends("image(#)", 0, 1, "OUTSIDE");
        sentence("26: a refused one keeps nothing");
        run("image(2)!OUTSIDE image(-1)!OUTSIDE image(MIN)!OUTSIDE image(MAX)!OUTSIDE restore(0)!STATE restore(1)!STATE");
        sentence("26: one alone is kept");
        run("image(0)=1 restore(1)!STATE restore(0)=1");
        run("image(1)=1 restore(0)!STATE restore(1)=1");
        sentence("26: kept again it is the newer");
        run("set(0, 7) image(0)=1 set(0, 8) image(0)=1 set(0, 9) restore(0)=1 told(7)=8");
        sentence("26: with a FAULT on the PAD and with a full one, too");
        run("pad(m) image(0)=1 restore(0)=1 fault()=0");
        run("60*say(97) image(1)=1 restore(1)=1 told(0)=60");
    }

    private static void restore() {
        sentence("27: IMAGES 0 and 1, else OUTSIDE, kept or not");
        for (String state : STATES) {
            for (int n : outside(0, 1)) refused(state, "restore(" + n + ")", "OUTSIDE");
        }
        run(RICH + "restore(0)=1 restore(1)=1");
        sentence("27: STATE, if it was not kept");
        for (String state : new String[] {NEW, CAN_NOT_BE, FULL_PAD, FULL_SIGHTS, NO_HOUSE_FITS, DAY_99, ALL_DEAF}) {
            refused(state, "restore(0)", "STATE");
            refused(state, "restore(1)", "STATE");
        }
        refused(FAULTY, "restore(0)", "STATE");
        refused(MORE_MUST_COME, "restore(1)", "STATE");
        sentence("27: it is as it was: each thing by itself");
        for (String change : new String[] {"house(0, true, false, 0)", "house(11, false, true, 0)", "house(5, false, false, 255)",
            "wall(0, 9)", "wall(10, 1)", "set(0, 40)", "set(1, -3)", "set(2, 11)", "letter(0, 11, 0, 0, 0)",
            "letter(5, 0, 255, 0, 0)", "letter(2, 0, 0, 255, 0)", "letter(3, 0, 0, 0, 4095)", "seen(0, true)", "seen(11, false)",
            "pad(0) done()=1", "pad(.) done()=1", "pad(l) done()=1", "pad(!a) done()=1"}) {
            for (int n = 0; n < 2; n++) isBack(n, change);
        }
        sentence("27: from new to the greatest and back");
        isBack(0, GREATEST.replace("image(0) image(1)", "") + DAY_99);
        run(GREATEST + allHouses("house(#, false, false, 0) ") + "forget() letter(0, 0, 0, 0, 0) restore(0)=1 told(3)=4095 told(4)=4095 told(5)=63"
            + " told(6)=8 seen(0, true)!FULL told(20)=255 told(31)=255 told(100)=11");
        sentence("27: day 99 is kept, and day 0");
        run("image(0) " + DAY_99 + "image(1) restore(0)=1 told(2)=0 judge(0)=NONE restore(1)=1 told(2)=99 judge(0)=0 judge(1)=3");
        sentence("27: the PAD stays as it is, empty or full");
        run("pad(b0) image(0) wipe() restore(0)=1 told(0)=0 60*say(98) restore(0)=1 told(0)=60 say(98)!FULL judge(0)=1");
        sentence("27: an IMAGE stays kept, and as it was, whatever comes");
        run("set(0, 7) image(0) set(0, 8) image(1) restore(0)=1 told(7)=7 set(0, 9) house(0, true, true, 9) restore(1)=1 told(7)=8"
            + " restore(0)=1 told(7)=7 told(20)=0 restore(0)=1 restore(1)=1 told(7)=8");
        sentence("27: an IMAGE of what was restored");
        run("set(0, 7) image(0) set(0, 8) restore(0)=1 image(1) set(0, 9) restore(1)=1 told(7)=7");
    }

    /** What a change did is gone when an IMAGE of a new object is restored; it is there when one kept behind it is. */
    private static void isBack(int n, String change) {
        Town town = new Town();
        town.runAll(parse("image(" + n + ")"));
        String ahead = town.tellStreet();
        town.runAll(parse(change));
        String changed = town.tellStreet();
        town.runAll(parse("image(" + (1 - n) + ")=1 restore(" + n + ")=1"));
        same(change + " restore(" + n + "): all told", town.tellStreet(), ahead);
        town.runAll(parse("restore(" + (1 - n) + ")=1"));
        same(change + " restore(" + (1 - n) + "): all told", town.tellStreet(), changed);
        if (changed.equals(ahead)) fail(change + " changes nothing that is told");
    }

    // ---- Promise 28

    private static void told() {
        sentence("28: 0 to 8, 20 to 31, 40 to 50, four of each LETTER, else OUTSIDE");
        for (String state : new String[] {NEW, RICH, GREATEST}) {
            for (int what = -40; what <= 300; what++) toldOrOutside(state, what);
        }
        sentence("28: OUTSIDE far outside");
        for (int what : new int[] {Integer.MIN_VALUE, Integer.MIN_VALUE + 1, -1000, 1000, 1 << 16, (1 << 16) + 7, 1 << 30,
            Integer.MAX_VALUE - 1, Integer.MAX_VALUE}) refusedAlways("told(" + what + ")", "OUTSIDE");
        sentence("28: OUTSIDE at each gap, in each state");
        for (int what : new int[] {-1, 9, 19, 32, 39, 51, 99, 104, 109, 114, 119, 149, 154, 159, 160, 163}) {
            refusedAlways("told(" + what + ")", "OUTSIDE");
        }
        sentence("28: the greatest of each");
        run(GREATEST + "told(1)=11 told(3)=4095 told(4)=4095 told(5)=63 told(6)=8 told(7)=40 told(8)=6 told(20)=255 told(31)=255"
            + " told(40)=9 told(50)=9 told(100)=11 told(101)=255 told(102)=255 told(103)=4095 told(150)=11 told(151)=255 told(152)=255 told(153)=4095");
        run(DAY_99 + "told(2)=99 wipe() 60*say(33) told(0)=60");
        sentence("28: the least of each");
        run("set(0, 1) set(1, -3) told(7)=1 told(8)=0 told(0)=0 told(1)=0 told(2)=0");
    }

    private static boolean isTold(int what) {
        if (what >= 100 && what <= 159) return what % 10 <= 3;
        return what >= 0 && what <= 8 || what >= 20 && what <= 31 || what >= 40 && what <= 50;
    }

    private static void toldOrOutside(String state, int what) {
        Town town = new Town();
        town.runAll(parse(state));
        boolean told = town.call(parse("told(" + what + ")").get(0)) != -2;
        if (told != isTold(what)) fail("told(" + what + ") is " + (told ? "not OUTSIDE" : "OUTSIDE"));
    }

    private static void lastCall() {
        sentence("An object is used for 512 calls: the last one, too, answers");
        run("seen(0, true) 510*at()=3 at()=3");
        run("60*say(46) done()=60 39*say(46) done()=39 410*told(2)=99 told(2)=99");
    }

    // ---- how sentences are tried

    private static void sentence(String said) {
        words = said;
        sentences++;
    }

    private static void fail(String what) {
        wrong++;
        System.out.println("[" + words + "] " + what);
    }

    private static void due(String call, long got, long want) {
        if (got != want) fail(call + " answered " + got + ", due is " + want);
    }

    private static void same(String what, String got, String want) {
        if (!got.equals(want)) fail(what + "\n    is  " + got + "\n    due " + want);
    }

    private static void run(String script) {
        List<Step> steps = parse(script);
        new Town().runAll(steps);
        for (int i = 0; i < steps.size(); i++) {
            if (steps.get(i).refused) changesNothing(steps.subList(0, i), steps.get(i));
        }
    }

    private static void refused(String state, String call, String refusal) {
        changesNothing(parse(state), parse(call + "!" + refusal).get(0));
    }

    private static void refusedAlways(String call, String refusal) {
        for (String state : STATES) refused(state, call, refusal);
    }

    /** Numbers just beside least to most, far from them, and such as shifts, masks and casts would take for one of them. */
    private static int[] outside(int least, int most) {
        return new int[] {least - 1, most + 1, Integer.MIN_VALUE, Integer.MAX_VALUE, Integer.MIN_VALUE + Math.max(least, 0),
            Integer.MAX_VALUE - 1, least - 32, most + 32, least - 256, most + 256, least - 65536, most + 65536, 1 << 30};
    }

    /** In a call with # in it: the least and the greatest number are taken, those outside are refused in each state. */
    private static void ends(String call, int least, int most, String refusal) {
        for (int n : outside(least, most)) {
            if (n < least || n > most) refusedAlways(call.replace("#", "" + n), refusal);
        }
        for (String state : new String[] {NEW, RICH}) {
            for (int n : new int[] {least, most}) {
                Town town = new Town();
                town.runAll(parse(state));
                String taken = call.replace("#", "" + n);
                long answer = town.call(parse(taken).get(0));
                if (answer < 0 && answer != -6) fail(taken + " answered " + answer);
            }
        }
    }

    /** The whole state is told ahead of a call and behind it, and told like that of an object without the call. */
    private static void changesNothing(List<Step> before, Step call) {
        Town without = new Town();
        without.runAll(before);
        Town with = new Town();
        with.runAll(before);
        String ahead = with.tellAll();
        with.check(call);
        same(call.text + ": all that is told behind it", with.tellAll(), ahead);
        same(call.text + ": all that is kept", with.tellKept(), without.tellKept());
    }

    private static final Pattern STEP = Pattern.compile("\\s*(?:(\\d+)\\*)?(\\w+)\\(([^)]*)\\)(?:=(\\S+)|!(\\w+))?\\s*");

    private static List<Step> parse(String script) {
        List<Step> steps = new ArrayList<>();
        Matcher found = STEP.matcher(script);
        int end = 0;
        while (end < script.length()) {
            if (!found.find(end) || found.start() != end) throw new IllegalArgumentException("no script: " + script.substring(end));
            steps.add(new Step(found));
            end = found.end();
        }
        return steps;
    }

    private static int number(String text) {
        for (int i = 0; i < NAMES.length; i++) if (NAMES[i].equals(text)) return NUMBERS[i];
        return text.startsWith("0b") ? Integer.parseInt(text.substring(2), 2) : Integer.parseInt(text);
    }

    /** One call of a script, with what it is to answer. */
    private static final class Step {
        final String text;
        final int times;
        final String name;
        final String inside;
        final int[] args;
        final String answer;
        final boolean refused;

        Step(Matcher found) {
            text = found.group().trim();
            times = found.group(1) == null ? 1 : Integer.parseInt(found.group(1));
            name = found.group(2);
            inside = found.group(3);
            refused = found.group(5) != null;
            answer = refused ? found.group(5) : found.group(4);
            boolean numbers = !name.equals("pad") && !inside.isBlank();
            String[] parts = numbers ? inside.split(",\\s*") : new String[0];
            args = new int[parts.length];
            for (int i = 0; i < parts.length; i++) args[i] = number(parts[i]);
        }

        long due() {
            return refused && name.equals("chance") ? LOST + number(answer) : number(answer);
        }
    }

    /** An object, and how many calls it had. */
    private static final class Town {
        private final DoorVoice x = new DoorVoice();
        private int calls = 0;

        void runAll(List<Step> steps) {
            for (Step step : steps) for (int i = 0; i < step.times; i++) check(step);
        }

        void check(Step step) {
            if (step.name.equals("fraction")) {
                int[] a = step.args;
                counted(2);
                same(step.text, x.chance(a[0], a[1], a[2], 0) + "/" + x.chance(a[0], a[1], a[2], 1), step.answer);
                return;
            }
            long got = call(step);
            if (step.answer != null) due(step.text, got, step.due());
        }

        private void counted(int more) {
            calls += more;
            if (calls > CALLS) throw new IllegalStateException("more than " + CALLS + " calls: " + words);
        }

        private int written(String signs) {
            counted(signs.length());
            x.wipe();
            int count = 0;
            for (char sign : signs.toCharArray()) count = x.say(sign);
            return count;
        }

        long call(Step step) {
            counted(1);
            int[] a = step.args;
            switch (step.name) {
                case "house": return x.house(a[0], a[1] == 1, a[2] == 1, a[3]);
                case "wall": return x.wall(a[0], a[1]);
                case "set": return x.set(a[0], a[1]);
                case "letter": return x.letter(a[0], a[1], a[2], a[3], a[4]);
                case "say": return x.say(a[0]);
                case "wipe": return x.wipe();
                case "pad": return written(step.inside);
                case "fault": return x.fault();
                case "judge": return x.judge(a[0]);
                case "done": return x.done();
                case "knows": return x.knows(a[0]);
                case "behind": return x.behind(a[0]);
                case "who": return x.who(a[0]);
                case "loud": return x.loud(a[0], a[1]);
                case "hears": return x.hears(a[0]);
                default: return callRest(step.name, a);
            }
        }

        private long callRest(String name, int[] a) {
            switch (name) {
                case "best": return x.best(a[0], a[1]);
                case "thirds": return x.thirds(a[0], a[1]);
                case "round": return x.round(a[0], a[1]);
                case "seen": return x.seen(a[0], a[1] == 1);
                case "forget": return x.forget();
                case "at": return x.at();
                case "ask": return x.ask(a[0]);
                case "rumour": return x.rumour(a[0], a[1]);
                case "chance": return x.chance(a[0], a[1], a[2], a[3]);
                case "year": return x.year(a[0], a[1], a[2]);
                case "image": return x.image(a[0]);
                case "restore": return x.restore(a[0]);
                case "told": return x.told(a[0]);
                default: throw new IllegalArgumentException("no such call: " + name);
            }
        }

        /** All but the PAD and the IMAGES. */
        String tellStreet() {
            StringBuilder all = new StringBuilder();
            for (int what = 1; what < 160; what++) if (isTold(what)) all.append(x.told(what)).append(' ');
            counted(56);
            return all.append("at ").append(x.at()).toString();
        }

        String tellAll() {
            StringBuilder all = new StringBuilder(tellStreet());
            all.append(" signs ").append(x.told(0)).append(" fault ").append(x.fault());
            all.append(" judged ").append(x.judge(0)).append(' ').append(x.judge(1)).append(" behind");
            for (int what = 0; what < 4; what++) all.append(' ').append(x.behind(what));
            for (int h = 0; h < 12; h++) all.append(' ').append(x.knows(h));
            counted(20);
            return all.toString();
        }

        /** What the PAD does, and both IMAGES; the object is another one behind this. */
        String tellKept() {
            counted(4);
            String kept = x.done() + " " + tellStreet();
            for (int n = 0; n < 2; n++) kept += " image " + x.restore(n) + " " + tellStreet();
            return kept + " signs " + x.told(0);
        }
    }
}
