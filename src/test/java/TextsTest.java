/** Promises 21 to 23: texts. */
public final class TextsTest {
    private static final Checks checks = new Checks();

    public static void main(String[] args) {
        put();
        putErrors();
        putOfEachCode();
        putTooMany();
        wipe();
        faultOfRightTexts();
        faultOfShortTexts();
        faultAtEachPlace();
        faultOfDigits();
        faultOfTheLongest();
        textsAreNoChanges();
        checks.end();
    }

    private static void due(String call, long got, long want) {
        checks.due(call, got, want);
    }

    private static void faultOf(String text, int want) {
        OperaGlasses x = new OperaGlasses();
        Checks.type(x, text);
        due("fault of " + text, x.fault(), want);
        due("tellAll of " + text, x.tellAll() == OperaGlasses.BAD_TEXT ? 1 : 0, want == OperaGlasses.NONE ? 0 : 1);
    }

    private static void put() {
        OperaGlasses x = new OperaGlasses();
        due("1 character", x.put('0'), 1);
        due("3 characters", x.put(Checks.packed(":0>")), 4);
        due("1 more", x.put('1'), 5);
        due("in the right order", x.fault(), OperaGlasses.NONE);
        due("8 characters", x.put(Checks.packed(",1:1/0,2")), 13);
        due("in the right order", x.fault(), 13);
        x.put(Checks.packed(":2*2"));
        due("tellAll()", x.tellAll(), 3);
        due("kind of 1", x.rumour(1, 1), 1);
        due("teller of 2", x.rumour(2, 0), 2);
        due("8 of the highest code", x.put(Checks.packed("~~~~~~~~")), 8);
    }

    private static void putErrors() {
        OperaGlasses x = new OperaGlasses();
        x.put('a');
        long[] wrong = {0L, 32L, 127L, 128L, 255L, 10L, -1L, Long.MIN_VALUE, Long.MAX_VALUE, 0x100L, 0x4100L,
            0x410041L, 0x4100000000000041L, 0x8000000000000041L, 0x2041L, 0x4120L, 0x7F41L, 0x4141414141414120L,
            0x2041414141414141L, 0x8041414141414141L, 0xFF41414141414141L, 0x0041410041414141L, 0x0100000000000000L};
        for (long characters : wrong) {
            due("put(" + Long.toHexString(characters) + ")", x.put(characters), OperaGlasses.BAD_VALUE);
        }
        due("nothing was put", x.count(9), 1);
    }

    private static void putOfEachCode() {
        for (int code = 1; code < 256; code++) {
            OperaGlasses x = new OperaGlasses();
            boolean right = code >= 33 && code <= 126;
            due("put of code " + code, x.put(code), right ? 1 : OperaGlasses.BAD_VALUE);
            due("put of code before " + code, x.put(0x4100L + code), right ? 3 : OperaGlasses.BAD_VALUE);
            due("put of code behind " + code, x.put(code * 256L + 0x41), right ? 5 : OperaGlasses.BAD_VALUE);
        }
    }

    private static void putTooMany() {
        OperaGlasses x = new OperaGlasses();
        for (int i = 1; i <= 7; i++) {
            due("8 more", x.put(Checks.packed("12345678")), 8 * i);
        }
        due("5 would be too many", x.put(Checks.packed("12345")), OperaGlasses.TOO_MANY);
        due("a wrong code comes first", x.put(0x2041414141L), OperaGlasses.BAD_VALUE);
        due("nothing was put", x.count(9), 56);
        due("4 fit", x.put(Checks.packed("1234")), 60);
        due("no more", x.put('1'), OperaGlasses.TOO_MANY);
        due("wipe()", x.wipe(), 60);
        due("after that", x.put('1'), 1);
    }

    private static void wipe() {
        OperaGlasses x = new OperaGlasses();
        due("wipe() of nothing", x.wipe(), 0);
        Checks.type(x, "0:0>1");
        due("wipe()", x.wipe(), 5);
        due("wipe() again", x.wipe(), 0);
        due("the length", x.count(9), 0);
        due("the fault", x.fault(), 0);
        Checks.type(x, "7");
        due("a new text", x.fault(), 0);
    }

    private static void faultOfRightTexts() {
        faultOf("0:0>1", OperaGlasses.NONE);
        faultOf("5:5/4", OperaGlasses.NONE);
        faultOf("5:4=5", OperaGlasses.NONE);
        faultOf("0:0~5", OperaGlasses.NONE);
        faultOf("0:5#6", OperaGlasses.NONE);
        faultOf("0:5#5", OperaGlasses.NONE);
        faultOf("0:0#0", OperaGlasses.NONE);
        faultOf("0:5*5", OperaGlasses.NONE);
        faultOf("0:0*1", OperaGlasses.NONE);
        faultOf("0:0>1,1:0>1,5:5*5", OperaGlasses.NONE);
    }

    private static void faultOfShortTexts() {
        String text = "0:0>1,1:2#6,3:3*3";
        for (int length = 0; length <= text.length(); length++) {
            faultOf(text.substring(0, length), length % 6 == 5 ? OperaGlasses.NONE : length);
        }
    }

    private static void faultAtEachPlace() {
        String text = "0:0>1,1:2=5";
        for (int place = 0; place < text.length(); place++) {
            for (char wrong : new char[] {'!', 'a', '6', '7', '9', '-', '.', ';', '<', '+', '"', '$', '}', '@'}) {
                faultOf(text.substring(0, place) + wrong + text.substring(place + 1), place);
                faultOf(text.substring(0, place) + wrong, place);
            }
        }
        faultOf("0:0>1;", 5);
        faultOf("0:0>1,,", 6);
        faultOf(",0:0>1", 0);
        faultOf("00:0>1", 1);
        faultOf("0:00>1", 3);
        faultOf("0:0>>1", 4);
        faultOf("0:0>11", 5);
        faultOf("6:7", 0);
    }

    private static void faultOfDigits() {
        String signs = ">/=~#*";
        for (int kind = 0; kind < 6; kind++) {
            for (char a = '/'; a <= '7'; a++) {
                for (char b = '/'; b <= '8'; b++) {
                    faultOf("0:" + a + signs.charAt(kind) + b, faultOfOne(kind, a, b));
                }
            }
        }
        for (char teller = '/'; teller <= '7'; teller++) {
            faultOf(teller + ":0>1", teller >= '0' && teller <= '5' ? OperaGlasses.NONE : 0);
        }
    }

    private static int faultOfOne(int kind, char a, char b) {
        if (a < '0' || a > '5') {
            return 2;
        }
        char most = kind == OperaGlasses.WATCHED ? '6' : '5';
        boolean unlike = kind < OperaGlasses.WATCHED;
        return b < '0' || b > most || unlike && a == b ? 4 : OperaGlasses.NONE;
    }

    private static void faultOfTheLongest() {
        String nine = "0:0>1,0:0>2,0:0>3,1:0>1,1:0>2,1:0>3,2:0>1,2:0>2,2:0>3,";
        faultOf(nine + "3:3*3", OperaGlasses.NONE);
        faultOf(nine + "3:3*3,", 60);
        faultOf(nine + "3:3>3,", 58);
        faultOf(nine + "3:3*33", 59);
    }

    private static void textsAreNoChanges() {
        OperaGlasses x = new OperaGlasses();
        x.put('1');
        x.fault();
        x.wipe();
        x.put('2');
        due("no change", x.count(10), 0);
        x.look(0, 2);
        x.put('3');
        due("undo()", x.undo(), 0);
        due("the pad stays", x.count(9), 2);
    }
}
