import java.io.IOException;

/** The two languages at their bounds: TOKENS, how much there is room for in a TEXT, FAULT, BROKEN. */
public final class TextEdgesTest {
    private static final Check CHECK = new Check();
    private static final int NONE = CoinsWarden.NONE;

    private static void due(String what, long got, long want) {
        CHECK.due(what, got, want);
    }

    private static String many(String s, int n) {
        return s.repeat(n);
    }

    /** A LAW is read, or has its FAULT there. */
    private static void law(String s, String text, int fault) {
        CoinsWarden x = new CoinsWarden();
        String what = s + " law " + text;
        due(what, Check.law(x, text), fault == NONE ? 0 : -6);
        told(what, x, fault, 1);
    }

    private static void habit(String s, String text, int fault) {
        CoinsWarden x = new CoinsWarden();
        String what = s + " habit " + text;
        due(what, Check.habit(x, text), fault == NONE ? 0 : -6);
        told(what, x, fault, 2);
    }

    private static void told(String what, CoinsWarden x, int fault, int count) {
        due(what + ": fault", x.fault(), fault);
        due(what + ": status", x.status(), fault == NONE ? 0 : -6);
        due(what + ": held", x.count(count), fault == NONE ? 1 : 0);
        due(what + ": held of the other kind", x.count(3 - count), 0);
        due(what + ": refused", x.count(10), fault == NONE ? 0 : 1);
        due(what + ": the tape is empty", x.count(5), 0);
    }

    /** The same behind "comes", "throw", "fines": so the FAULT is at the same place in both languages. */
    private static void both(String s, String behind, int fault) {
        law(s, "comes" + behind, fault);
        habit(s, "throw" + behind, fault);
        law(s, "fines" + behind, fault);
    }

    private static void tokens(Document doc) {
        String s = doc.sentence("TOKENS: longest rows of letters a .. z, of digits, single other bytes, any blanks (32) between.");
        both(s, "1", NONE);
        both(s, "      1      ", NONE);
        both(s, " 1if1=1and 1=1or 1=1", NONE);
        both(s, " 1if1=1andnot1=1", 12);
        both(s, "slot", 0);
        both(s, " slotslot", 6);
        both(s, " slot slot", 11);
        both(s, " 10 0", 9);
        both(s, " 1 0", 8);
        both(s, " 1if not1=1", NONE);
        both(s, " 1iff 1=1", 7);
        both(s, " 1 i f 1=1", 8);
        both(s, " slo t", 6);
        both(s, " slot1", 10);
        both(s, " slot+1", NONE);
        both(s, " 1+ +1", 9);
        both(s, " 1==1", 7);
        both(s, " 1 if 1==1", 13);
        both(s, " 1 if 1<=1", 13);
        both(s, "\t1", 5);
        both(s, "\n1", 5);
        both(s, "\u001f1", 5);
        both(s, "!1", 5);
        both(s, "\u00001", 5);
        both(s, "\u00a01", 5);
        both(s, "\u00ff1", 5);
        both(s, " 1\u0000", 7);
        both(s, " `", 6);
        both(s, " {", 6);
        both(s, " /", 6);
        both(s, " :", 6);
        both(s, " 1/1", NONE);
        both(s, " 1:1", 7);
        both(s, " slot{", 10);
        both(s, " slot`", 10);
        both(s, " Slot", 6);
        both(s, " sloT", 6);
        both(s, " \u00e1", 6);
        both(s, " 1\u00b9", 7);
        law(s, "sparesif1=1", 0);
        law(s, "spares if 1=1;spares;comes 1", NONE);
        law(s, "Spares", 0);
        law(s, " ;spares", 1);
        law(s, "spares spares", 7);
        law(s, "zz", 0);
        law(s, "az", 0);
        letters(s);
    }

    /** Each byte is a letter, a digit, or a TOKEN of its own. */
    private static void letters(String s) {
        for (int sign = 0; sign < 256; sign++) {
            boolean letter = sign >= 'a' && sign <= 'z';
            boolean digit = sign >= '0' && sign <= '9';
            String one = String.valueOf((char) sign);
            law(s + " letters " + sign, "spares" + one, sign == ' ' ? NONE : letter ? 0 : sign == ';' ? 7 : 6);
            boolean goesOn = "+-*/%;".indexOf(sign) >= 0;
            law(s + " digits " + sign, "comes 1" + one, sign == ' ' || digit ? NONE : goesOn ? 8 : 7);
            law(s + " behind ? " + sign, "spares ?" + one, 7);
            law(s + " twice " + sign, "spares " + one + one, sign == ' ' ? NONE : sign == ';' ? 8 : 7);
        }
    }

    private static void clauses(Document doc) {
        String s = doc.sentence("CLAUSE {\";\" CLAUSE}, 12 at most (FAULT at the 13th's first TOKEN).");
        law(s, "spares" + many(";spares", 10), NONE);
        law(s, "spares" + many(";spares", 11), NONE);
        law(s, "spares" + many(";spares", 12), 84);
        law(s, "spares" + many(";spares", 13), 84);
        law(s, "spares" + many(";spares", 11) + ";", 84);
        law(s, "spares" + many(";spares", 11) + ";   ", 87);
        law(s, "spares" + many(";spares", 11) + ";   ?", 87);
        law(s, "spares" + many(";spares", 11) + ";;", 84);
        law(s, "spares" + many(";spares", 11) + ";  comes 1", 86);
        law(s, "spares" + many(";spares", 11) + " 1", 84);
        law(s, "spares" + many(" ; spares", 11), NONE);
        law(s, "spares" + many(" ; spares", 12), 108);
        law(s, "comes 1" + many(";comes 1", 11), NONE);
        law(s, "comes 1" + many(";comes 1", 12), 96);
        habit(s, "throw 1" + many(";throw 1", 11), NONE);
        habit(s, "throw 1" + many(";throw 1", 12), 96);
        habit(s, "throw 1" + many(";throw 1", 11) + ";", 96);
        both(s, " 1;", 8);
        both(s, " 1;;", 8);
        law(s, ";", 0);
        habit(s, ";", 0);
        CoinsWarden x = new CoinsWarden();
        Check.law(x, "comes 1" + many(";comes 1", 10) + ";comes 7");
        x.force(0);
        due(s + " the twelfth is asked", x.asks(0, 1, 0, 0), 7);
        Check.law(x, "comes 3" + many(";comes 1 if slot = 1", 11));
        x.force(1);
        due(s + " the first is asked", x.asks(0, 1, 0, 0), 3);
    }

    private static void numbers(Document doc) {
        String s = doc.sentence("PART: NUMBER (to 1,000)");
        for (String number : new String[] {"0", "1", "999", "1000", "0001000", many("0", 390) + "1000", many("0", 394)}) {
            both(s, " " + number, NONE);
        }
        for (String number : new String[] {"1001", "1002", "9999", "10000", "01001", "2147483648", "4294967296", "4294967301",
            "18446744073709551616", "18446744073709551621", "100000000000000000000000000000", many("9", 394)}) {
            both(s, " " + number, 6);
            both(s, " 1 + " + number.substring(0, Math.min(390, number.length())), 10);
        }
        both(s, " -1", 6);
        both(s, " +1", 6);
        both(s, " 1,000", 7);
        both(s, " 1.5", 7);
        CoinsWarden x = new CoinsWarden();
        Check.law(x, "comes 1000 / 100; comes 0000000000000000000000000007 if slot = 1; comes 0 if slot = 2");
        x.force(0);
        due(s, x.asks(0, 1, 0, 0), 10);
        due(s, x.asks(1, 1, 0, 0), 7);
        due(s, x.asks(2, 1, 0, 0), 0);
    }

    private static void parts(Document doc) {
        String s = doc.sentence("50 PARTS that are NUMBERS and words (FAULT at the 51st)");
        both(s, " 1" + many("+1", 48), NONE);
        both(s, " 1" + many("+1", 49), NONE);
        both(s, " 1" + many("+1", 50), 106);
        both(s, " 1" + many("+1", 51), 106);
        both(s, " slot" + many("-slot", 49), NONE);
        both(s, " slot" + many("-slot", 50), 256);
        both(s, " 1" + many("*slot", 25) + many("/1", 24), NONE);
        both(s, " 1" + many("*slot", 25) + many("/1", 25), 181);
        both(s, " [1]" + many("+[1]", 49), NONE);
        both(s, " [1]" + many("+[1]", 50), 207);
        both(s, " [[1]]" + many("+1", 49), NONE);
        both(s, " 1" + many("+1", 49) + "+[", 107);
        both(s, " 1" + many("+1", 49) + "+x", 106);
        both(s, " 1" + many("+1", 49) + "+1001", 106);
        both(s, " 1" + many("+1", 49) + "+", 106);
        both(s, " 1" + many("+1", 47) + " if 1=1", NONE);
        both(s, " 1" + many("+1", 47) + " if 1=1 or 1=1", 112);
        both(s, " 1" + many("+1", 47) + " if 1<1;", 109);
        law(s, "comes 1" + many("+1", 29) + ";fines 1" + many("+1", 19), NONE);
        law(s, "comes 1" + many("+1", 29) + ";fines 1" + many("+1", 20), 112);
        law(s, "comes 1" + many("+1", 49) + ";spares", NONE);
        law(s, "comes 1" + many("+1", 49) + ";spares if ", 116);
        law(s, "comes 1" + many("+1", 49) + ";spares if 1=1", 116);
        law(s, "spares if 1=1" + many("or 1=1", 24), NONE);
        law(s, "spares if 1=1" + many("or 1=1", 25), 160);
        habit(s, "throw 1" + many("+1", 29) + ";throw 1" + many("+1", 19), NONE);
        habit(s, "throw 1" + many("+1", 29) + ";throw 1" + many("+1", 20), 112);
        CoinsWarden x = new CoinsWarden();
        Check.law(x, "fines 1" + many("+1", 49));
        x.force(0);
        x.car(0, 0, 0, 0);
        due(s + " all fifty are reckoned", x.asks(0, 1, 0, 1), 50);
        Check.law(x, "no");
        due(s + " each text anew", Check.law(x, "fines 2" + many("+1", 49)), 1);
    }

    private static String mixed(int round, int square) {
        return many("(", round) + many("[", square) + "1" + many("]", square) + "=1" + many(")", round);
    }

    private static void brackets(Document doc) {
        String s = doc.sentence("8 brackets of both kinds within one another (FAULT at the 9th) at most.");
        for (int n = 1; n <= 12; n++) {
            both(s, " " + many("[", n) + "1" + many("]", n), n <= 8 ? NONE : 14);
            both(s, " 1 if " + many("(", n) + "1=1" + many(")", n), n <= 8 ? NONE : 19);
            law(s, "spares if " + many("(", n) + "1=1" + many(")", n), n <= 8 ? NONE : 18);
            law(s, "spares if " + many("not (", n) + "1=1" + many(")", n), n <= 8 ? NONE : 54);
        }
        for (int round = 0; round <= 8; round++) {
            law(s, "spares if " + mixed(round, 8 - round), NONE);
            law(s, "spares if " + mixed(round, 9 - round), 18);
        }
        law(s, "spares if " + mixed(9, 0), 18);
        both(s, " " + many("[", 8) + "1" + many("]", 8) + "+" + many("[", 8) + "1" + many("]", 8), NONE);
        both(s, " " + many("[", 8) + "1" + many("]", 8) + "+" + many("[", 9) + "1" + many("]", 9), 32);
        both(s, " " + many("[", 7) + "[1]+[1]" + many("]", 7), NONE);
        both(s, " " + many("[", 7) + "[1]+[[1]]" + many("]", 7), 18);
        both(s, " [1]" + many("*[1]", 40), NONE);
        both(s, " 1 if (1=1)" + many("and(1=1)", 20), NONE);
        both(s, " 1 if " + many("(", 8) + "1=1" + many(")", 8) + "or[[1]]=" + many("[", 8) + "1" + many("]", 8), NONE);
        law(s, "spares if " + many("(", 8) + "[", 18);
        law(s, "comes " + many("[", 8) + "1" + many("]", 8) + " if " + many("(", 8) + "1=1" + many(")", 8) + ";spares if ("
            + many("[", 7) + "1" + many("]", 7) + "=1)", NONE);
        both(s, " " + many("[", 8) + "1" + many("]", 7), 22);
        both(s, " " + many("[", 8) + "1" + many("]", 9), 23);
        both(s, " [1)", 8);
        both(s, " [(1)]", 7);
        both(s, " (1)", 6);
        both(s, " []", 7);
        both(s, " 1 if ()", 12);
        both(s, " 1 if [1=1]", 13);
        both(s, " 1 if (1)=1", 13);
        CoinsWarden x = new CoinsWarden();
        for (int n = 0; n < 10; n++) {
            due(s + " a text that breaks off", Check.law(x, "comes [[[1"), -6);
            due(s + " a text that breaks off", Check.habit(x, "throw 1 if (((1 = 1"), -6);
        }
        due(s + " each text anew", Check.law(x, "comes " + many("[", 8) + "1" + many("]", 8)), 0);
        due(s + " each text anew", Check.habit(x, "throw 1 if " + many("(", 8) + "1=1" + many(")", 8)), 0);
    }

    /** What one TEXT took is there again for the next: thirty of fifty PARTS each, one behind the other. */
    private static void oneBehindAnother() {
        CoinsWarden x = new CoinsWarden();
        x.image(0);
        for (int n = 0; n < 30; n++) {
            int comes = n % 11;
            due("text " + n + " on one tape", Check.law(x, "comes " + comes + many("+0", 49)), 0);
            x.force(0);
            due("text " + n + " is reckoned", x.asks(0, 1, 0, 0), comes);
            x.back(0);
        }
    }

    private static void faults(Document doc) {
        String s = doc.sentence("FAULT: the first TOKEN that can't go on there (the end's: the TEXT's length).");
        for (int blanks = 0; blanks <= 400; blanks += blanks < 3 || blanks > 396 ? 1 : 99) {
            law(s, many(" ", blanks), blanks);
            habit(s, many(" ", blanks), blanks);
        }
        for (int blanks = 0; blanks < 4; blanks++) {
            String b = many(" ", blanks);
            both(s, b, 5 + blanks);
            both(s, " 1+" + b, 8 + blanks);
            both(s, " 1*" + b, 8 + blanks);
            both(s, " [1" + b, 8 + blanks);
            both(s, " 1;" + b, 8 + blanks);
            both(s, " 1 if" + b, 10 + blanks);
            both(s, " 1 if 1" + b, 12 + blanks);
            both(s, " 1 if 1=" + b, 13 + blanks);
            both(s, " 1 if(1=1" + b, 14 + blanks);
            both(s, " 1 if not" + b, 14 + blanks);
            both(s, " 1 if 1=1 or" + b, 17 + blanks);
            both(s, " 1 if 1=1 and" + b, 18 + blanks);
            law(s, "spares if" + b, 9 + blanks);
            law(s, b + "throw 1", blanks);
            habit(s, b + "comes 1", blanks);
            habit(s, b + "fines 1", blanks);
            habit(s, b + "spares", blanks);
        }
        both(s, " if 1=1", 6);
        both(s, " 1 if if", 11);
        both(s, " 1 if 1=1 if 1=1", 15);
        both(s, " 1 if 1=1=1", 14);
        both(s, " 1 if not not", 18);
        both(s, " 1 if 1=not 1", 13);
        both(s, " 1 if or", 11);
        both(s, " 1 or 1=1", 8);
        law(s, "spares 1", 7);
        law(s, "spares if", 9);
        for (String word : new String[] {"left", "more", "coin", "per"}) {
            law(s, "comes " + word, 6);
            habit(s, "throw " + word, NONE);
        }
        for (String word : new String[] {"rain", "wardens", "car", "mood"}) {
            law(s, "comes " + word, NONE);
            habit(s, "throw " + word, 6);
        }
        for (String word : new String[] {"slot", "since", "stay"}) {
            both(s, " " + word, NONE);
        }
        for (String word : new String[] {"comes", "throw", "not", "and", "or", "if", "spares", "fines"}) {
            both(s, " " + word, 6);
        }
    }

    private static void longTexts(Document doc) {
        String s = doc.sentence("TEXTS are on a TAPE of at most 400 bytes.");
        for (int length : new int[] {8, 380, 399, 400}) {
            both(s, many(" ", length - 6) + "1", NONE);
            both(s, " 1" + many(" ", length - 7), NONE);
            both(s, many(" ", length - 6) + "?", length - 1);
            both(s, " 1" + many(" ", length - 8) + ";", length);
        }
        law(s, "spares if " + many("not ", 96) + "1=1", NONE);
        law(s, "spares if " + many("not ", 97), 398);
        law(s, "spares if " + many("not(", 9), 45);
        law(s, "spares if " + many("(", 390), 18);
        both(s, " " + many("[", 394), 14);
        both(s, many(";", 395), 5);
        both(s, " " + many("+", 394), 6);
        both(s, " 1" + many("+1", 196), 106);
        law(s, many("a", 400), 0);
        CoinsWarden x = new CoinsWarden();
        x.car(0, 0, 0, 0);
        Check.law(x, "spares if " + many("not ", 96) + "1=1");
        x.force(0);
        due(s + " 96 times not", x.asks(0, 1, 0, 2), 1);
        Check.law(x, "spares if " + many("not ", 95) + "1=1");
        x.force(1);
        due(s + " 95 times not", x.asks(0, 1, 0, 2), 0);
    }

    private static void room(Document doc) {
        String laws = doc.sentence("LAWS, 6 at most");
        String habits = doc.sentence("HABITS, 6 at most");
        CoinsWarden x = new CoinsWarden();
        for (int n = 0; n < 6; n++) {
            due(laws, x.count(1), n);
            due(laws + " a bad one takes no room", Check.law(x, "comes"), -6);
            due(laws, Check.law(x, "comes " + n), n);
            due(habits, x.count(2), n);
            due(habits + " a bad one takes no room", Check.habit(x, "throw"), -6);
            due(habits, Check.habit(x, "throw " + n), n);
        }
        due(laws, Check.law(x, "comes 9"), -5);
        due(habits, Check.habit(x, "throw 9"), -5);
        due(laws, x.count(1), 6);
        due(habits, x.count(2), 6);
        due(laws, x.count(9), 2);
        x.car(0, 0, 0, 0);
        x.terms(2, 0);
        for (int n = 0; n < 6; n++) {
            x.force(n);
            due(laws + " all stand", x.asks(0, 1, 0, 0), n);
            due(habits + " all stand", x.habits(0, n), n * 1_000_000_000_000L);
        }
        CoinsWarden y = Twin.at(Twin::full);
        y.back(1);
        y.end(0);
        due(laws + " room again", Check.law(y, "comes 1"), 3);
        due(habits + " room again", Check.habit(y, "throw 1"), 3);
    }

    private static void fault(Document doc) {
        String s = doc.sentence("FAULT of the latest law(), habit() that read a TEXT: its place; NONE without.");
        CoinsWarden x = new CoinsWarden();
        due(s + " ahead of any", x.fault(), NONE);
        Check.law(x, "comes ?");
        due(s, x.fault(), 6);
        x.row();
        x.force(9);
        x.image(0);
        due(s + " others leave it", x.fault(), 6);
        Check.habit(x, "throw 1;");
        due(s, x.fault(), 8);
        x.back(0);
        due(s + " images don't keep it", x.fault(), 8);
        Check.habit(x, "throw 1");
        due(s + " a good one", x.fault(), NONE);
        due(s + " the first byte", Check.law(x, "?"), -6);
        due(s + " the first byte", x.fault(), 0);
        Check.law(x, "spares");
        due(s + " a good one", x.fault(), NONE);
        x.law();
        due(s + " empty", x.fault(), 0);
        CoinsWarden y = Twin.at(Twin::full);
        y.law();
        due(s + " no room: it was not read", y.fault(), NONE);
        y.back(1);
        Check.law(y, "comes 1 2");
        due(s, y.fault(), 8);
        y.back(0);
        due(s, Check.law(y, "?"), -5);
        due(s + " no room: it was not read", y.fault(), 8);
        due(s, Check.habit(y, "throw 1"), -5);
        due(s + " no room: it was not read", y.fault(), 8);
    }

    /** What a SUM is within 0 .. 99, or NONE if it is BROKEN; in a LAW's SUM, a LAW's TEST and a HABIT. */
    private static void sum(String s, String sum, int want) {
        CoinsWarden x = new CoinsWarden();
        due(s + " " + sum, Check.law(x, "comes 10; fines 77; fines " + sum), 0);
        x.force(0);
        x.car(0, 0, 0, 0);
        due(s + " " + sum, x.asks(0, 1, 0, 1), want == NONE ? 77 : want);
        due(s + " in a test " + sum, Check.law(x, "spares if " + sum + "=" + Math.max(want, 0)), 1);
        x.force(1);
        due(s + " in a test " + sum, x.asks(0, 1, 0, 2), want == NONE ? 0 : 1);
        Check.law(x, "spares if not " + sum + "=" + Math.max(want, 0));
        x.force(2);
        due(s + " in a turned test " + sum, x.asks(0, 1, 0, 2), 0);
        x.force(NONE);
        x.terms(2, 0);
        due(s + " in a habit " + sum, Check.habit(x, "throw 3; throw " + sum), 0);
        due(s + " in a habit " + sum, x.habits(0, 0), 1_000_000_000_000L * (want == NONE ? 3 : Math.min(12, want)));
    }

    private static void broken(Document doc) {
        String s = doc.sentence("Beyond 1,000,000,000 either way, or divided by 0 (/ cut towards 0, % what is left then),"
            + " a SUM, a TEST is BROKEN");
        String most = "1000*1000*1000";
        sum(s, most + "/1000/1000/100", 10);
        sum(s, "[" + most + "+1]/1000/1000/100", NONE);
        sum(s, "[" + most + "-1]/1000/1000/100", 9);
        sum(s, "[1+" + most + "]*0", NONE);
        sum(s, "[0-" + most + "]/[0-1000]/1000/100", 10);
        sum(s, "[0-" + most + "-1]/[0-1000]/1000/100", NONE);
        sum(s, "[0-" + most + "+1]/[0-1000]/1000/100", 9);
        sum(s, "[0-1-" + most + "]*0", NONE);
        sum(s, most + "*1/1000/1000/100", 10);
        sum(s, "[" + most + "]*[0-1]/[0-1000]/1000/100", 10);
        sum(s, "[" + most + "]*2/1000/1000/100", NONE);
        sum(s, "[" + most + "]*[0-2]+5", NONE);
        sum(s, "[" + most + "]*[" + most + "]*[" + most + "]", NONE);
        sum(s, "[" + most + "]*[" + most + "]-[" + most + "]*[" + most + "]", NONE);
        sum(s, most + "-" + most + "+7", 7);
        sum(s, most + "%7", 6);
        sum(s, "1/0", NONE);
        sum(s, "0/0", NONE);
        sum(s, "1%0", NONE);
        sum(s, "0%0", NONE);
        sum(s, "7/[3-3]", NONE);
        sum(s, "0*[1/0]", NONE);
        sum(s, "0/1", 0);
        sum(s, "1/1", 1);
        sum(s, "1/2", 0);
        sum(s, "7/2", 3);
        sum(s, "[0-7]/2+10", 7);
        sum(s, "7/[0-2]+10", 7);
        sum(s, "[0-7]/[0-2]", 3);
        sum(s, "[0-1]/2", 0);
        sum(s, "7%2", 1);
        sum(s, "[0-7]%2+10", 9);
        sum(s, "7%[0-2]", 1);
        sum(s, "[0-7]%[0-2]+10", 9);
        sum(s, "6%3", 0);
        sum(s, "5%1000", 5);
        sum(s, "7/1%4*5", 15);
        sum(s, "2*3%4/1", 2);
        sum(s, "9-3-2", 4);
        sum(s, "9-[3-2]", 8);
        sum(s, "20/2/5", 2);
        sum(s, "1+2*3", 7);
        sum(s, "2*3+1", 7);
    }

    private static void test(String s, String test, int want) {
        CoinsWarden x = new CoinsWarden();
        due(s + " " + test, Check.law(x, "spares if " + test), 0);
        x.force(0);
        x.car(0, 0, 0, 0);
        due(s + " " + test, x.asks(0, 1, 0, 2), want);
    }

    private static void lazily(Document doc) {
        String s = doc.sentence("(\"or\", \"and\" ask what stands behind only if it can still matter).");
        String yes = "1=1";
        String no = "1=2";
        String broken = "1/0=1";
        test(s, yes + " or " + broken, 1);
        test(s, no + " or " + broken, 0);
        test(s, broken + " or " + yes, 0);
        test(s, "not (" + no + " or " + broken + ")", 0);
        test(s, "not (" + no + " and " + broken + ")", 1);
        test(s, "not (" + yes + " and " + broken + ")", 0);
        test(s, "not (" + broken + " and " + no + ")", 0);
        test(s, "not " + broken, 0);
        test(s, "not not " + broken, 0);
        test(s, no + " and " + broken + " or " + yes, 1);
        test(s, yes + " and " + broken + " or " + yes, 0);
        test(s, no + " and " + broken + " and " + broken + " or " + yes, 1);
        test(s, yes + " or " + broken + " and " + broken, 1);
        test(s, yes + " or " + broken + " or " + broken, 1);
        test(s, no + " or " + yes + " or " + broken, 1);
        test(s, no + " or " + no + " and " + broken, 0);
        test(s, "(" + yes + " or " + broken + ") and " + yes, 1);
        test(s, "(" + yes + " or " + broken + ") and " + broken, 0);
        test(s, "(" + no + " and " + broken + ") or " + yes, 1);
        test(s, "not (" + yes + " or " + broken + ") or " + yes, 1);
        test(s, "not (not (" + no + " and " + broken + ") and " + no + ")", 1);
        test(s, yes + " or 1000*1000*1000+1=0", 1);
        test(s, no + " or 1000*1000*1000+1=0", 0);
        test(s, "not 1000*1000*1000+1=0", 0);
        test(s, "not 1000*1000*1000=0", 1);
        test(s, "1=1/0", 0);
        test(s, "not 1<1/0", 0);
        test(s, "not 1/0>1", 0);
    }

    private static void comparisons(Document doc) {
        String s = doc.sentence("SUM (\"<\" | \">\" | \"=\") SUM");
        for (int a = 0; a < 3; a++) {
            test(s, a + "<1", a < 1 ? 1 : 0);
            test(s, a + ">1", a > 1 ? 1 : 0);
            test(s, a + "=1", a == 1 ? 1 : 0);
            test(s, "not " + a + "<1", a < 1 ? 0 : 1);
            test(s, "not " + a + ">1", a > 1 ? 0 : 1);
            test(s, "0-" + a + "<0-1", a > 1 ? 1 : 0);
        }
    }

    private static void binding(Document doc) {
        String s = doc.sentence("TEST: BOTH {\"or\" BOTH}. BOTH: PLAIN {\"and\" PLAIN}. PLAIN: \"not\" PLAIN | \"(\" TEST \")\"");
        String[] is = {"1=2", "1=1"};
        for (int bits = 0; bits < 8; bits++) {
            boolean a = (bits & 1) != 0;
            boolean b = (bits & 2) != 0;
            boolean c = (bits & 4) != 0;
            String[] t = {is[bits & 1], is[bits >> 1 & 1], is[bits >> 2]};
            test(s, t[0] + " or " + t[1] + " and " + t[2], a || b && c ? 1 : 0);
            test(s, t[0] + " and " + t[1] + " or " + t[2], a && b || c ? 1 : 0);
            test(s, "(" + t[0] + " or " + t[1] + ") and " + t[2], (a || b) && c ? 1 : 0);
            test(s, t[0] + " and (" + t[1] + " or " + t[2] + ")", a && (b || c) ? 1 : 0);
            test(s, "not " + t[0] + " or " + t[1] + " and not " + t[2], !a || b && !c ? 1 : 0);
            test(s, "not (" + t[0] + " or " + t[1] + ") or not not " + t[2], !(a || b) || c ? 1 : 0);
            test(s, "not (" + t[0] + " and not (" + t[1] + " or " + t[2] + "))", !(a && !(b || c)) ? 1 : 0);
        }
        String m = doc.sentence("SUM: TERM {(\"+\" | \"-\") TERM}. TERM: PART {(\"*\" | \"/\" | \"%\") PART}.");
        sum(m, "20-2*3+1", 15);
        sum(m, "20-[2*3+1]", 13);
        sum(m, "[20-2]*3+1", 55);
        sum(m, "50/4%5*3", 6);
        sum(m, "50-20/4-3", 42);
        sum(m, "[[50-20]/[4-1]]", 10);
        sum(m, "50%8/2", 1);
    }

    private static void becomes(Document doc) {
        String l = doc.sentence("The TAPE, which is empty then, becomes a LAW: its number.");
        String h = doc.sentence("The TAPE, which is empty then, becomes a HABIT: its number. -5, -6 (as for law()).");
        CoinsWarden x = new CoinsWarden();
        due(l + " an empty tape", x.law(), -6);
        due(h + " an empty tape", x.habit(), -6);
        Check.feed(x, "comes");
        due(l, x.count(5), 5);
        Check.feed(x, " 4;");
        Check.feed(x, "spares");
        due(l + " fed in parts", x.law(), 0);
        due(l, x.count(5), 0);
        due(l + " it is empty then", x.law(), -6);
        Check.feed(x, "throw 2");
        due(h, x.habit(), 0);
        due(h, x.count(5), 0);
        due(h + " it is empty then", x.habit(), -6);
        Check.feed(x, "throw 2 3");
        due(h, x.habit(), -6);
        due(h, x.count(5), 0);
        Check.feed(x, "comes 2 3");
        due(l, x.law(), -6);
        due(l, x.count(5), 0);
        due(l, x.row(), -6);
        CoinsWarden y = Twin.at(Twin::full);
        due(h, y.habit(), -5);
        due(h, y.count(5), 0);
    }

    private static void holds(Document doc) {
        String s = doc.sentence("A CLAUSE HOLDS, if its \"if\" (if it has one) is so, and neither that nor its SUM is BROKEN.");
        String[] laws = {"fines 1", "fines 1 if 1=1", "fines 1 if 1=2", "fines 1 if 1/0=1", "fines 1/0", "fines 1/0 if 1=1",
            "fines 1; fines 2", "fines 1; fines 2 if 1=2", "fines 1; fines 2/0", "fines 1; fines 2 if 1/0=0", "comes 1; spares",
            "fines 1/0; fines 2", "fines 3; fines 1 if 1=2; fines 2/0; comes 9"};
        int[] want = {1, 1, 40, 40, 40, 40, 2, 1, 1, 1, 40, 2, 3};
        for (int n = 0; n < laws.length; n++) {
            CoinsWarden x = new CoinsWarden();
            due(s, Check.law(x, laws[n]), 0);
            x.force(0);
            x.car(0, 0, 0, 0);
            due(s + " " + laws[n], x.asks(0, 1, 0, 1), want[n]);
        }
        String[] spares = {"spares", "spares if 1=1", "spares if 1=2", "spares if 1/0=1", "spares; spares if 1=2",
            "spares if 1=2; spares", "comes 1; fines 2", "spares; comes 1/0"};
        int[] is = {1, 1, 0, 0, 1, 1, 0, 1};
        for (int n = 0; n < spares.length; n++) {
            CoinsWarden x = new CoinsWarden();
            due(s, Check.law(x, spares[n]), 0);
            x.force(0);
            x.car(0, 0, 0, 0);
            due(s + " " + spares[n], x.asks(0, 1, 0, 2), is[n]);
        }
    }

    public static void main(String[] args) throws IOException {
        Document doc = new Document(CHECK);
        tokens(doc);
        clauses(doc);
        numbers(doc);
        parts(doc);
        brackets(doc);
        oneBehindAnother();
        faults(doc);
        longTexts(doc);
        room(doc);
        fault(doc);
        broken(doc);
        lazily(doc);
        comparisons(doc);
        binding(doc);
        becomes(doc);
        holds(doc);
        CHECK.close("TextEdgesTest");
    }
}
