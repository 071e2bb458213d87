/** Bytes as the document sorts them, for tests that try every byte there is at one place of a text. */
final class Signs {
    private Signs() {
    }

    static boolean isDigit(int sign) {
        return sign >= '0' && sign <= '9';
    }

    static boolean isSmall(int sign) {
        return sign >= 'a' && sign <= 'z';
    }

    static boolean isBlank(int sign) {
        return sign == 10 || sign == 32;
    }

    static String between(String ahead, int sign, String behind) {
        return ahead + (char) sign + behind;
    }
}
