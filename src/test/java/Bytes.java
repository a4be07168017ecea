import java.io.ByteArrayOutputStream;

/** A row of bytes that is put together; numbers come with their highest byte first. */
final class Bytes {
    private final ByteArrayOutputStream out = new ByteArrayOutputStream();

    Bytes one(int... values) {
        for (int value : values) {
            out.write(value);
        }
        return this;
    }

    Bytes two(int... values) {
        for (int value : values) {
            one(value >> 8, value);
        }
        return this;
    }

    Bytes four(long... values) {
        for (long value : values) {
            two((int) (value >> 16), (int) value);
        }
        return this;
    }

    Bytes text(String text) {
        for (char c : text.toCharArray()) {
            one(c);
        }
        return this;
    }

    Bytes zeros(int count) {
        for (int i = 0; i < count; i++) {
            one(0);
        }
        return this;
    }

    Bytes all(byte[] more) {
        out.write(more, 0, more.length);
        return this;
    }

    Bytes clear() {
        out.reset();
        return this;
    }

    int size() {
        return out.size();
    }

    byte[] done() {
        return out.toByteArray();
    }
}
