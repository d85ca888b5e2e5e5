/** Promises 7 (comeAll), 13 (type), 14 (clearText). */
public final class TextTest {
    public static void main(String[] args) {
        type();
        faults();
        entries();
        keptProfiles();
        laterText();
        fullLine();
        fullProfiles();
        longText();
        Due.end();
    }

    private static void type() {
        FoldedProfiles x = new FoldedProfiles();
        Due.due("clearText of nothing", x.clearText(), 0);
        char[] any = {0, ' ', 'l', '0', 255, 256, Character.MAX_VALUE};
        for (int i = 0; i < any.length; i++) {
            Due.due("type " + (int) any[i], x.type(any[i]), i + 1);
        }
        Due.due("length", x.count(15), any.length);
        for (int length = any.length + 1; length <= 80; length++) {
            Due.due("type to " + length, x.type('1'), length);
        }
        Due.due("no room", x.type('1'), FoldedProfiles.FULL);
        Due.due("no room", x.type(Character.MAX_VALUE), FoldedProfiles.FULL);
        Due.due("length", x.count(15), 80);
        Due.due("none is an act", x.count(14), 0);
        Due.due("clearText", x.clearText(), 80);
        Due.due("it is empty", x.count(15), 0);
        Due.due("nor is that", x.undo(), FoldedProfiles.NONE);
        Due.due("type again", x.type('1'), 1);
    }

    private static void faults() {
        fault("", 0);
        fault("1", 1);
        fault("0", 0);
        fault("l", 0);
        fault(";", 0);
        fault("12345678", 8);
        fault("123456789", 8);
        fault("1234567l", 7);
        fault("12305678l", 3);
        fault("1234 678l", 4);
        fault("12345678L", 8);
        fault("12345678x", 8);
        fault("12345678;", 8);
        fault("12345678l0", 9);
        fault("12345678l05", 9);
        fault("12345678l100", 11);
        fault("12345678l999", 11);
        fault("12345678l5x", 10);
        fault("12345678ll", 9);
        fault("12345678l,", 9);
        fault("12345678l;", 10);
        fault("12345678l;;", 10);
        fault("12345678l99;", 12);
        fault("12345678l99;0", 12);
        fault("12345678l;1234567", 17);
        fault("12345678l;12345678", 18);
        fault("12345678l;12345678c10;", 22);
        fault("12345678l ", 9);
        fault(" 12345678l", 0);
        fault("12345678" + (char) ('l' + 256), 8);
        fault("" + (char) ('1' + 256) + "2345678l", 0);
        fault("12345678l" + (char) ('1' + 256), 9);
        fault("1234567:l", 7);
        fault("1234567/l", 7);
        fault("12345678l1:", 10);
        fault("12345678l1/", 10);
    }

    private static void fault(String signs, int fault) {
        FoldedProfiles x = new FoldedProfiles();
        Due.text(x, signs);
        Due.due("comeAll of '" + signs + "'", x.comeAll(), -100 - fault);
        Due.due("nothing came", x.count(1) + x.count(3) + x.count(14), 0);
        Due.due("the text stays", x.count(15), signs.length());
    }

    private static void entries() {
        FoldedProfiles x = Due.stallWith("12345678l;12345678r1;98765432c99;98765432l10");
        int[][] due = {{0, 0, 20}, {0, 1, 1}, {1, 2, 99}, {1, 0, 10}};
        for (int place = 0; place < due.length; place++) {
            for (int what = 0; what < 3; what++) {
                Due.due("sitter(" + place + ", " + what + ")", x.sitter(place, what), due[place][what]);
            }
        }
        Due.due("profiles", x.count(1), 2);
        Due.due("the widths", x.width(1, 0) * 10 + x.width(1, 7), 92);
        Due.due("one act", x.count(14), 1);
        Due.due("the text stays", x.count(15), 44);
        Due.due("they come again", x.comeAll(), 8);
        Due.due("profiles", x.count(1), 2);
        Due.due("undo", x.undo(), 1);
        Due.due("4 wait", x.count(3), 4);
        Due.due("undo", x.undo(), 0);
        Due.due("none", x.count(3) + x.count(1), 0);
        Due.due("the text is no part of a state", x.count(15), 44);
    }

    private static void keptProfiles() {
        FoldedProfiles x = Due.stallWith("11111111l");
        x.draw(0, 0, 2);
        x.draw(1, 0, 1);
        Due.text(x, "21111111l;11111111r;31111111c;31111111l");
        Due.due("comeAll", x.comeAll(), 5);
        Due.due("kept", x.count(1), 4);
        Due.due("numbers", x.sitter(1, 0) * 1000 + x.sitter(2, 0) * 100 + x.sitter(3, 0) * 10 + x.sitter(4, 0), 1033);
    }

    private static void laterText() {
        FoldedProfiles x = Due.stallWith("11111111r3;22222222c4");
        Due.text(x, "33333333l");
        Due.due("comeAll", x.comeAll(), 3);
        Due.due("nothing of the text before", x.sitter(2, 0) * 1000 + x.sitter(2, 1) * 100 + x.sitter(2, 2), 2020);
        Due.text(x, "33333333");
        Due.due("a fault", x.comeAll(), -108);
        Due.text(x, "22222222c5");
        Due.due("comeAll", x.comeAll(), 4);
        Due.due("as it says", x.sitter(3, 0) * 1000 + x.sitter(3, 1) * 100 + x.sitter(3, 2), 1205);
    }

    private static void fullLine() {
        FoldedProfiles x = Due.stallWith("11111111l;22222222l;33333333l;44444444l");
        x.comeAll();
        Due.due("12 wait", x.comeAll(), 12);
        Due.due("no more", x.comeAll(), FoldedProfiles.FULL);
        Due.text(x, "55555555l");
        Due.due("no more", x.comeAll(), FoldedProfiles.FULL);
        Due.due("nothing is kept", x.count(1), 4);
        Due.due("nothing is recorded", x.count(14), 3);
        Due.text(x, "55555555l;");
        Due.due("the fault before FULL", x.comeAll(), -110);
        FoldedProfiles y = Due.stallWith("11111111l;22222222l;33333333l");
        for (int waiting = 4; waiting <= 10; waiting++) {
            y.come(0, 0, 9);
        }
        Due.due("3 more than 10", y.comeAll(), FoldedProfiles.FULL);
        Due.due("none of them came", y.count(3), 10);
        Due.text(y, "44444444l;55555555l");
        Due.due("2 more than 10", y.comeAll(), 12);
    }

    private static void fullProfiles() {
        FoldedProfiles x = Due.stallWith("11111111l");
        for (int number = 1; number < 9; number++) {
            x.draw(0, 0, number + 1);
        }
        Due.text(x, "11111112l;11111113l");
        Due.due("11 profiles", x.comeAll(), FoldedProfiles.FULL);
        Due.due("9 profiles", x.count(1) * 100 + x.count(3) * 10 + x.count(14), 914);
        Due.text(x, "11111112l;11111112r");
        Due.due("10 profiles", x.comeAll(), 3);
        Due.due("are kept", x.count(1), 10);
        Due.text(x, "91111111l;11111112l");
        Due.due("no new ones", x.comeAll(), 5);
        Due.text(x, "99999999l");
        Due.due("a new one", x.comeAll(), FoldedProfiles.FULL);
    }

    private static void longText() {
        String eight = "11111111l;22222222r;33333333c;44444444l;55555555l;66666666r;77777777c;88888888l";
        Due.due("its length", eight.length(), 79);
        FoldedProfiles x = Due.stallWith(eight);
        Due.due("the last one", x.sitter(7, 0) * 100 + x.sitter(7, 2), 720);
        Due.due("a patience", x.type('7'), 80);
        Due.due("9 would be 16", x.comeAll(), FoldedProfiles.FULL);
        FoldedProfiles y = Due.stallWith(eight + "7");
        Due.due("the last one", y.sitter(7, 2), 7);
        fault(eight + ";", 80);
        fault(eight + "0", 79);
        fault(eight + "l", 79);
        String seven = eight.substring(0, 69);
        fault(seven + "99;88888888", 80);
        fault(seven + "9;888888889", 79);
        FoldedProfiles z = Due.stallWith(seven + "9;88888888c");
        Due.due("a text that is full", z.count(15), 80);
    }
}
