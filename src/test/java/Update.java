/** What a server sends for one update. A test bends what it wants before it asks for the manifest. */
final class Update {
    int key = Device.KEY;
    int more = Device.MORE;
    int vendor = Device.VENDOR;
    int sequence;
    int baseDigest = 0;
    final int[] payload;
    int payloadLength;
    int payloadDigest;
    int imageLength;
    int imageDigest;
    int tagFault = 0;

    Update(int sequence, int[] payload, int[] image) {
        this.sequence = sequence;
        this.payload = payload;
        payloadLength = payload.length;
        payloadDigest = Bytes.digest(payload);
        imageLength = image.length;
        imageDigest = Bytes.digest(image);
    }

    static Update whole(int sequence, int[] image) {
        return new Update(sequence, Bytes.literals(image), image);
    }

    Update on(int[] base) {
        baseDigest = Bytes.digest(base);
        return this;
    }

    int[] manifest() {
        int[] told = Bytes.join(Bytes.of(vendor, sequence), Bytes.word(baseDigest), Bytes.of(payloadLength),
            Bytes.word(payloadDigest), Bytes.of(imageLength), Bytes.word(imageDigest));
        int tag = Bytes.digest(Bytes.word(key), Bytes.word(more), told);
        return Bytes.join(told, Bytes.word(tag ^ tagFault));
    }

    int blocks() {
        return (payload.length + 15) / 16;
    }

    int[] block(int k) {
        return Bytes.part(payload, 16 * k, Math.min(16, payload.length - 16 * k));
    }
}
