/** Bytes in which numbers stand lowest byte first. */
final class Bytes {
    final byte[] bytes;

    Bytes(int n) {
        bytes = new byte[n];
    }

    Bytes(byte[] from) {
        bytes = from.clone();
    }

    Bytes put(int at, int n, long value) {
        for (int i = 0; i < n; i++) {
            bytes[at + i] = (byte) (value >>> 8 * i);
        }
        return this;
    }

    long get(int at, int n) {
        long value = 0;
        for (int i = 0; i < n; i++) {
            value |= (bytes[at + i] & 255L) << 8 * i;
        }
        return value;
    }
}
