/** Words of the machine. Where a method has no other way to tell, it makes the long form. */
final class Word {
    static final int NOP = 0xD503201F;
    static final int CALL = 0xD4000001;
    static final int EQ = 0;
    static final int NE = 1;
    static final int CS = 2;
    static final int CC = 3;
    static final int MI = 4;
    static final int VS = 6;
    static final int HI = 8;
    static final int GE = 10;
    static final int LT = 11;
    static final int GT = 12;
    static final int SHORT = 0x7FFFFFFF;

    private Word() {
    }

    /** The word form of a word that is made long. */
    static int narrow(int w) {
        return w & SHORT;
    }

    static int addNumber(int d, int n, int number) {
        return 0x91000000 | number << 10 | n << 5 | d;
    }

    static int subNumber(int d, int n, int number) {
        return 0xD1000000 | number << 10 | n << 5 | d;
    }

    static int addsNumber(int d, int n, int number) {
        return 0xB1000000 | number << 10 | n << 5 | d;
    }

    static int subsNumber(int d, int n, int number) {
        return 0xF1000000 | number << 10 | n << 5 | d;
    }

    static int movedBy12(int w) {
        return w | 1 << 22;
    }

    static int add(int d, int n, int m) {
        return 0x8B000000 | m << 16 | n << 5 | d;
    }

    static int sub(int d, int n, int m) {
        return 0xCB000000 | m << 16 | n << 5 | d;
    }

    static int adds(int d, int n, int m) {
        return 0xAB000000 | m << 16 | n << 5 | d;
    }

    static int subs(int d, int n, int m) {
        return 0xEB000000 | m << 16 | n << 5 | d;
    }

    static int shifted(int w, int how, int amount) {
        return w | how << 22 | amount << 10;
    }

    static int and(int d, int n, int m) {
        return 0x8A000000 | m << 16 | n << 5 | d;
    }

    static int or(int d, int n, int m) {
        return 0xAA000000 | m << 16 | n << 5 | d;
    }

    static int xor(int d, int n, int m) {
        return 0xCA000000 | m << 16 | n << 5 | d;
    }

    static int ands(int d, int n, int m) {
        return 0xEA000000 | m << 16 | n << 5 | d;
    }

    static int turned(int w) {
        return w | 1 << 21;
    }

    static int copy(int d, int m) {
        return or(d, 31, m);
    }

    static int movz(int d, int number, int by) {
        return 0xD2800000 | by << 21 | number << 5 | d;
    }

    static int movn(int d, int number, int by) {
        return 0x92800000 | by << 21 | number << 5 | d;
    }

    static int movk(int d, int number, int by) {
        return 0xF2800000 | by << 21 | number << 5 | d;
    }

    static int madd(int d, int n, int m, int a) {
        return 0x9B000000 | m << 16 | a << 10 | n << 5 | d;
    }

    static int msub(int d, int n, int m, int a) {
        return 0x9B008000 | m << 16 | a << 10 | n << 5 | d;
    }

    static int two(int d, int n, int m, int what) {
        return 0x9AC00000 | m << 16 | what << 10 | n << 5 | d;
    }

    static int choose(int d, int n, int m, int condition) {
        return 0x9A800000 | m << 16 | condition << 12 | n << 5 | d;
    }

    static int chooseMore(int d, int n, int m, int condition) {
        return choose(d, n, m, condition) | 1 << 10;
    }

    /** By a number, in bytes; width 0 a byte, 2 a word, 3 a long. */
    static int load(int width, int d, int n, int number) {
        return width << 30 | 0x39400000 | number >> width << 10 | n << 5 | d;
    }

    static int store(int width, int d, int n, int number) {
        return width << 30 | 0x39000000 | number >> width << 10 | n << 5 | d;
    }

    static int loadSigned(int d, int n, int number) {
        return 0xB9800000 | number >> 2 << 10 | n << 5 | d;
    }

    static int loadAt(int width, int d, int n, int m, boolean times) {
        return width << 30 | 0x38606800 | m << 16 | (times ? 1 << 12 : 0) | n << 5 | d;
    }

    static int storeAt(int width, int d, int n, int m, boolean times) {
        return width << 30 | 0x38206800 | m << 16 | (times ? 1 << 12 : 0) | n << 5 | d;
    }

    /** How 1: n changes behind, 2: n and the number, 3: n becomes that. */
    static int loadPair(int how, int d, int a, int n, int number) {
        return 0xA8400000 | how << 23 | (number >> 3 & 127) << 15 | a << 10 | n << 5 | d;
    }

    static int storePair(int how, int d, int a, int n, int number) {
        return 0xA8000000 | how << 23 | (number >> 3 & 127) << 15 | a << 10 | n << 5 | d;
    }

    /** CBNZ over the next two words. */
    static int cbnzAt(int d) {
        return 0xB5000060 | d;
    }

    static int br(int n) {
        return 0xD61F0000 | n << 5;
    }

    static int blr(int n) {
        return 0xD63F0000 | n << 5;
    }

    static int ret(int n) {
        return 0xD65F0000 | n << 5;
    }
}
