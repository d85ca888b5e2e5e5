/** Boundary cases, sentence by sentence: the text, the sitters that are read from it, and the place of its fault. */
public final class EdgeTextsTest {
    private static final String PROFILE = "12345678";

    public static void main(String[] args) {
        eightyCharacters();
        anyCharacter();
        clearing();
        oneOrMoreEntries();
        eightDigits();
        sides();
        patiences();
        patienceThatIsTooGreat();
        beginnings();
        wrongCharacters();
        firstFault();
        fullTexts();
        sittersOfTheText();
        keptProfiles();
        lineOfTwelve();
        tenProfiles();
        faultBeforeFull();
        allOrNone();
        textStays();
        Due.end();
    }

    private static void fault(String signs, int fault) {
        FoldedProfiles x = new FoldedProfiles();
        Due.text(x, signs);
        Due.due("comeAll of '" + signs + "'", x.comeAll(), -100 - fault);
        Due.due("nobody came by '" + signs + "'", x.count(3) + x.count(1) + x.count(14), 0);
    }

    private static void patience(String signs, int sitter, int patience) {
        FoldedProfiles x = Due.stallWith(signs);
        Due.due("patience of " + sitter + " of '" + signs + "'", x.sitter(sitter, 2), patience);
    }

    private static void type(FoldedProfiles x, String signs) {
        for (int i = 0; i < signs.length(); i++) {
            x.type(signs.charAt(i));
        }
    }

    private static void eightyCharacters() {
        Due.sentence("There is a text of at most 80 characters, empty at first");
        FoldedProfiles x = new FoldedProfiles();
        Due.due("at first", x.count(15), 0);
        Due.due("the empty text", x.comeAll(), -100);
        Due.sentence("Returns the length of the text then; FULL if it has 80 characters");
        for (int length = 1; length <= 80; length++) {
            Due.due("type", x.type('1'), length);
            Due.due("the length", x.count(15), length);
        }
        Due.due("an 81st", x.type('1'), FoldedProfiles.FULL);
        Due.due("of any kind", x.type(';'), FoldedProfiles.FULL);
        Due.due("80", x.count(15), 80);
        Due.due("the ninth is wrong", x.comeAll(), -108);
    }

    private static void anyCharacter() {
        Due.sentence("any character");
        char[] any = {0, 9, '\n', ' ', '"', 'l', 127, 128, 255, 256, 0x7fff, 0x8000, 0xffff};
        for (char sign : any) {
            FoldedProfiles x = new FoldedProfiles();
            Due.due("type " + (int) sign, x.type(sign), 1);
            Due.due("is at fault", x.comeAll(), -100);
            Due.due("type behind it", x.type('1'), 2);
        }
    }

    private static void clearing() {
        Due.sentence("Returns the length that it had");
        FoldedProfiles x = new FoldedProfiles();
        Due.due("of nothing", x.clearText(), 0);
        x.type('1');
        Due.due("of 1", x.clearText(), 1);
        Due.due("of nothing again", x.clearText(), 0);
        type(x, PROFILE + "l");
        Due.due("the text is the new one", x.comeAll(), 1);
        for (int length = 10; length <= 80; length++) {
            x.type('9');
        }
        Due.due("FULL", x.type('9'), FoldedProfiles.FULL);
        Due.due("of 80", x.clearText(), 80);
        Due.due("empty", x.count(15), 0);
        Due.due("there is room again", x.type('1'), 1);
        Due.due("nothing of the old text is read", x.comeAll(), -101);
    }

    private static void oneOrMoreEntries() {
        Due.sentence("Sitters as a text are one or more entries with \";\" between two");
        fault("", 0);
        fault(";", 0);
        fault(";" + PROFILE + "l", 0);
        fault(PROFILE + "l;", 10);
        fault(PROFILE + "l;;" + PROFILE + "l", 10);
        fault(PROFILE + "l9;", 11);
        fault(PROFILE + "l99;", 12);
        fault(PROFILE + "l" + PROFILE + "l", 11);
        fault(PROFILE + "l," + PROFILE + "l", 9);
        fault(PROFILE + "l:" + PROFILE + "l", 9);
        fault(PROFILE + "l; " + PROFILE + "l", 10);
        StringBuilder entries = new StringBuilder(PROFILE + "l");
        for (int waiting = 1; waiting <= 8; waiting++) {
            Due.due(waiting + " entries", Due.stallWith(entries.toString()).count(3), waiting);
            entries.append(';').append(PROFILE).append('r');
        }
    }

    private static void eightDigits() {
        Due.sentence("8 digits from 1 to 9 (a profile)");
        for (int digit = 1; digit <= 9; digit++) {
            FoldedProfiles x = Due.stallWith(("" + digit).repeat(8) + "l");
            Due.due("the digit " + digit, x.width(0, 0) * 10 + x.width(0, 7), 11 * digit);
        }
        char[] wrong = {'0', '/', ':', 'l', ';', '-', ' ', (char) ('1' + 256), (char) 0x661};
        for (int place = 0; place < 8; place++) {
            String before = PROFILE.substring(0, place);
            for (char sign : wrong) {
                fault(before + sign + PROFILE.substring(place + 1) + "l", place);
                fault(PROFILE + "r;" + before + sign, 10 + place);
            }
            fault(before + "l", place);
        }
        fault(PROFILE + "9l", 8);
    }

    private static void sides() {
        Due.sentence("then \"l\", \"r\" or \"c\" (to the left, to the right, a couple)");
        FoldedProfiles x = Due.stallWith(PROFILE + "l;" + PROFILE + "r;" + PROFILE + "c");
        for (int want = 0; want <= 2; want++) {
            Due.due("want of " + want, x.sitter(want, 1), want);
        }
        char[] wrong = {'k', 'm', 'q', 's', 'b', 'd', 'L', 'R', 'C', '0', ';', ' ', 0, (char) ('l' + 256),
            (char) ('r' + 256), (char) ('c' + 256)};
        for (char sign : wrong) {
            fault(PROFILE + sign, 8);
            fault(PROFILE + "l7;" + PROFILE + sign + "9", 19);
        }
        fault(PROFILE + "lr", 9);
    }

    private static void patiences() {
        Due.sentence("and a patience (1 to 99; 20 without it)");
        for (int due = 1; due <= 99; due++) {
            patience(PROFILE + "c" + due, 0, due);
        }
        patience(PROFILE + "l", 0, 20);
        patience(PROFILE + "l;" + PROFILE + "l7", 0, 20);
        patience(PROFILE + "l7;" + PROFILE + "l", 1, 20);
        patience(PROFILE + "l;" + PROFILE + "l", 1, 20);
        patience(PROFILE + "l99;" + PROFILE + "l1", 0, 99);
        patience(PROFILE + "l99;" + PROFILE + "l1", 1, 1);
        patience(PROFILE + "r10;" + PROFILE + "c90", 1, 90);
    }

    private static void patienceThatIsTooGreat() {
        Due.sentence("A patience does not begin with 0");
        fault(PROFILE + "l0", 9);
        fault(PROFILE + "l01", 9);
        fault(PROFILE + "l00", 9);
        fault(PROFILE + "l0;" + PROFILE + "l", 9);
        fault(PROFILE + "l5;" + PROFILE + "l09", 20);
        Due.sentence("a digit by which it would be greater is not allowed");
        fault(PROFILE + "l100", 11);
        fault(PROFILE + "l990", 11);
        fault(PROFILE + "l999", 11);
        fault(PROFILE + "l101", 11);
        fault(PROFILE + "l123456789", 11);
        fault(PROFILE + "l5;" + PROFILE + "l100", 22);
    }

    private static void beginnings() {
        Due.sentence("or the length of the text if it ends too early (the empty text does)");
        String whole = "12345678l5;23456789r10;34567891c";
        for (int length = 0; length < whole.length(); length++) {
            String signs = whole.substring(0, length);
            boolean wholeEntries = length == 9 || length == 10 || length >= 20 && length <= 22;
            if (wholeEntries) {
                Due.due("sitters of '" + signs + "'", Due.stallWith(signs).count(3), length < 20 ? 1 : 2);
            } else {
                fault(signs, length);
            }
        }
        Due.due("the whole text", Due.stallWith(whole).count(3), 3);
    }

    private static void wrongCharacters() {
        Due.sentence("the index, from 0, of the first character that is not allowed at its place");
        String whole = "12345678l5;23456789r10;34567891c";
        for (int place = 0; place < whole.length(); place++) {
            for (char sign : new char[] {'x', ' ', '-', 0, 0xffff}) {
                fault(whole.substring(0, place) + sign + whole.substring(place + 1), place);
            }
        }
        fault(whole + "x", whole.length());
        fault(whole + "0", whole.length());
        fault(whole + "c", whole.length());
    }

    private static void firstFault() {
        Due.sentence("of the first character that is not allowed");
        fault("0234567xl", 0);
        fault("1234567xx", 7);
        fault(PROFILE + "x0", 8);
        fault(PROFILE + "l0;x", 9);
        fault("x", 0);
        fault("1x", 1);
        fault(PROFILE + "l;x" + PROFILE, 10);
    }

    private static void fullTexts() {
        Due.sentence("There is a text of at most 80 characters");
        String eight = (PROFILE + "l;").repeat(7) + "99999999r";
        Due.due("8 entries", eight.length(), 79);
        FoldedProfiles x = Due.stallWith(eight);
        Due.due("the last one", x.sitter(7, 1) * 100 + x.sitter(7, 2), 120);
        Due.due("its profile", x.width(x.sitter(7, 0), 7), 9);
        patience(eight + "1", 7, 1);
        patience(eight + "9", 7, 9);
        fault(eight + ";", 80);
        fault(eight + "0", 79);
        fault(eight + "x", 79);
        fault(eight.substring(0, 78), 78);
        fault((PROFILE + "l99;").repeat(6) + PROFILE, 80);
        fault((PROFILE + "l99;").repeat(6) + "1234567l", 79);
        fault((PROFILE + "l99;").repeat(6) + "123456789".substring(1), 80);
        FoldedProfiles y = Due.stallWith((PROFILE + "l99;").repeat(5) + PROFILE + "l;" + "11111111c");
        Due.due("7 entries", y.sitter(6, 2), 20);
        y.type('5');
        Due.due("a patience is no entry anew", y.comeAll(), FoldedProfiles.FULL);
    }

    private static void sittersOfTheText() {
        Due.sentence("Returns how many wait then");
        FoldedProfiles x = Due.stallWith("11111111l5;22222222r;11111111c99");
        int[][] due = {{0, 0, 5}, {1, 1, 20}, {0, 2, 99}};
        for (int sitter = 0; sitter < 3; sitter++) {
            for (int what = 0; what < 3; what++) {
                Due.due("sitter(" + sitter + ", " + what + ")", x.sitter(sitter, what), due[sitter][what]);
            }
        }
        Due.text(x, "22222222c1");
        Due.due("one more", x.comeAll(), 4);
        Due.due("behind the others", x.sitter(3, 0) * 1000 + x.sitter(3, 1) * 100 + x.sitter(3, 2), 1201);
        Due.due("no time", x.count(0), 0);
        laterText();
        Due.sentence("This is one act");
        Due.due("2 acts", x.count(14), 2);
        Due.due("undo", x.undo(), 1);
        Due.due("3 wait", x.count(3), 3);
        Due.due("undo", x.undo(), 0);
        Due.due("nobody waits", x.count(3), 0);
        Due.due("no profiles", x.count(1), 0);
    }

    private static void laterText() {
        FoldedProfiles x = Due.stallWith("11111111c5;22222222r6;33333333c7");
        Due.text(x, "44444444l;11111111l");
        Due.due("2 more", x.comeAll(), 5);
        Due.due("as the later text says", x.sitter(3, 0) * 1000 + x.sitter(3, 1) * 100 + x.sitter(3, 2), 3020);
        Due.due("as the later text says", x.sitter(4, 0) * 1000 + x.sitter(4, 1) * 100 + x.sitter(4, 2), 20);
        Due.text(x, "5555555");
        Due.due("a text that ends too early", x.comeAll(), -107);
    }

    private static void keptProfiles() {
        Due.sentence("one that is kept already, the lowest number, is not kept anew");
        FoldedProfiles x = Due.stallWith("11111111l");
        x.draw(0, 7, 2);
        x.draw(0, 0, 1);
        x.draw(1, 0, 1);
        Due.text(x, "11111112l;11111111r;11111113c;11111113l;21111111l");
        Due.due("comeAll", x.comeAll(), 6);
        Due.due("6 are kept", x.count(1), 6);
        int[] due = {0, 1, 0, 4, 4, 5};
        for (int sitter = 0; sitter < due.length; sitter++) {
            Due.due("profile of " + sitter, x.sitter(sitter, 0), due[sitter]);
        }
    }

    private static void lineOfTwelve() {
        Due.sentence("FULL if more than 12 would wait");
        for (int waiting = 9; waiting <= 12; waiting++) {
            FoldedProfiles x = Due.stallWith("11111111l");
            for (int sitter = 2; sitter <= waiting; sitter++) {
                x.come(0, 0, 9);
            }
            Due.text(x, "11111111l;22222222r;33333333c");
            Due.due("3 more than " + waiting, x.comeAll(), waiting == 9 ? 12 : FoldedProfiles.FULL);
            Due.due("wait", x.count(3), waiting == 9 ? 12 : waiting);
            Due.due("profiles", x.count(1), waiting == 9 ? 3 : 1);
        }
    }

    private static void tenProfiles() {
        Due.sentence("or more than 10 profiles would be kept");
        for (int kept = 7; kept <= 10; kept++) {
            FoldedProfiles x = Due.stallWith("11111111l");
            for (int number = 1; number < kept; number++) {
                x.draw(0, 0, Math.min(number, 9));
            }
            Due.text(x, "11111112l;11111113l;11111114l;11111112r");
            Due.due("3 more than " + kept, x.comeAll(), kept == 7 ? 5 : FoldedProfiles.FULL);
            Due.due("are kept", x.count(1), kept == 7 ? 10 : kept);
            Due.due("wait", x.count(3), kept == 7 ? 5 : 1);
            Due.text(x, "11111111r;21111111c");
            Due.due("none more", x.comeAll(), kept == 7 ? 7 : 3);
        }
    }

    private static void faultBeforeFull() {
        Due.sentence("-100 minus the fault of the text if it has one (which is an error); FULL");
        FoldedProfiles x = Due.stallWith("11111111l");
        for (int sitter = 2; sitter <= 12; sitter++) {
            x.come(0, 0, 9);
        }
        Due.due("FULL", x.comeAll(), FoldedProfiles.FULL);
        x.type('0');
        Due.due("the fault", x.comeAll(), -109);
        x.clearText();
        Due.due("the empty text", x.comeAll(), -100);
        FoldedProfiles y = Due.stallWith("11111111l");
        for (int number = 1; number < 10; number++) {
            y.draw(0, 0, number);
        }
        Due.text(y, "22222222l");
        Due.due("FULL", y.comeAll(), FoldedProfiles.FULL);
        y.type(';');
        Due.due("the fault", y.comeAll(), -110);
    }

    private static void allOrNone() {
        Due.sentence("all of them, or none");
        Twins.unchanged("comeAll, the third has a fault", x -> {
            type(x, "11111111l");
            x.comeAll();
            type(x, ";22222222l;33333333");
        }, x -> x.comeAll(), -128);
        Twins.unchanged("comeAll, the third is a thirteenth", x -> {
            type(x, "11111111l;22222222l;33333333l");
            x.comeAll();
            for (int waiting = 4; waiting <= 10; waiting++) {
                x.come(0, 0, 9);
            }
            x.clearText();
            type(x, "44444444r;55555555r;66666666r");
        }, x -> x.comeAll(), FoldedProfiles.FULL);
        Twins.unchanged("comeAll, the second profile is an eleventh", x -> {
            type(x, "11111111l");
            x.comeAll();
            for (int number = 2; number <= 9; number++) {
                x.draw(0, 7, number);
            }
            x.clearText();
            type(x, "44444444r;55555555r;11111111r");
        }, x -> x.comeAll(), FoldedProfiles.FULL);
    }

    private static void textStays() {
        Due.sentence("The sitters of the text, which stays");
        FoldedProfiles x = Due.stallWith("11111111l");
        Due.due("its length", x.count(15), 9);
        Due.due("again", x.comeAll(), 2);
        x.type('7');
        Due.due("with a patience", x.comeAll(), 3);
        Due.due("of 7", x.sitter(2, 2), 7);
        x.type('7');
        x.type('7');
        Due.due("a fault", x.comeAll(), -111);
        Due.due("behind which it stays too", x.clearText(), 12);
    }
}
