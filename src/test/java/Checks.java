/** Counts the answers of one test that are not as due. */
final class Checks {
    private int wrong;

    void due(String call, long got, long want) {
        if (got != want) {
            wrong++;
            System.out.println(call + " answered " + got + ", due is " + want);
        }
    }

    /** Closes the test; with a wrong answer the machine ends with 1, as the tests under shared do. */
    void end() {
        if (wrong > 0) {
            System.out.println(wrong + " answers are not as due");
            System.exit(1);
        }
    }

    /** A text of 1 to 8 characters as the number that put() takes. */
    static long packed(String text) {
        long number = 0;
        for (int i = 0; i < text.length(); i++) {
            number = number << 8 | text.charAt(i);
        }
        return number;
    }

    /** Puts a text of any length on the pad, and returns the last answer. */
    static int type(OperaGlasses house, String text) {
        int answer = 0;
        for (int i = 0; i < text.length(); i += 8) {
            answer = house.put(packed(text.substring(i, Math.min(i + 8, text.length()))));
        }
        return answer;
    }
}
