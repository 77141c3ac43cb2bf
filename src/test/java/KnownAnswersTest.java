/** Published answers: FIPS 180-4, FIPS 197 and the standard's vectors of the generators. */
public final class KnownAnswersTest {
    private static final String ABC = "616263";

    public static void main(String[] args) {
        digests();
        ciphers();
        digestGenerator();
        macGenerator();
        counterGenerator();
        Check.finish();
    }

    private static void digests() {
        BitWell well = new BitWell();
        Check.tape(well, ABC);
        Check.same("digest(false)", 32, well.digest(false));
        Check.same("SHA-256 of abc", "ba7816bf8f01cfea414140de5dae2223b00361a396177a9cb410ff61f20015ad",
                Check.drawn(well));
        Check.same("digest(true)", 64, well.digest(true));
        Check.same("SHA-512 of abc", "ddaf35a193617abacc417349ae20413112e6fa4e89a97ea20a9eeee64b55d39a"
                + "2192992a274fc1a836ba3c23a3feebbd454d4423643ce80e2a9ac94fa54ca49f", Check.drawn(well));
    }

    private static void ciphers() {
        BitWell well = new BitWell();
        String text = "00112233445566778899aabbccddeeff";
        String key = "000102030405060708090a0b0c0d0e0f";
        Check.tape(well, key + text);
        Check.same("cipher(false)", true, well.cipher(false));
        Check.same("AES-128", "69c4e0d86a7b0430d8cdb78070b4c55a", Check.drawn(well));
        Check.tape(well, key + "101112131415161718191a1b1c1d1e1f" + text);
        Check.same("cipher(true)", true, well.cipher(true));
        Check.same("AES-256", "8ea2b7ca516745bfeafc49904b496089", Check.drawn(well));
    }

    private static void digestGenerator() {
        BitWell well = new BitWell();
        Check.supply(well, "a65ad0f345db4e0effe875c3a2e71f42c7129d620ff5c119a9ef55f05185e0fb"
                + "8581f9317517276e06e9607ddbcbcc2e");
        Check.same("open", 0, well.open(0, 256, false, 9));
        Check.same("draw", 0, well.draw(0, 128, 0, false));
        Check.same("draw", 0, well.draw(0, 128, 0, false));
        Check.same("drawn", "d3e160c35b99f340b2628264d1751060e0045da383ff57a57d73a673d2b8d80d"
                + "aaf6a6c35a91bb4579d73fd0c8fed111b0391306828adfed528f018121b3febd"
                + "c343e797b87dbb63db1333ded9d1ece177cfa6b71fe8ab1da46624ed6415e51c"
                + "cde2c7ca86e283990eeaeb91120415528b2295910281b02dd431f4c9f70427df", Check.drawn(well));
    }

    private static void macGenerator() {
        BitWell well = new BitWell();
        Check.supply(well, "ca851911349384bffe89de1cbdc46e6831e44d34a4fb935ee285dd14b71a7488"
                + "659ba96c601dc69fc902940805ec0ca8");
        Check.same("open", 0, well.open(2, 256, false, 9));
        Check.same("draw", 0, well.draw(0, 128, 0, false));
        Check.same("draw", 0, well.draw(0, 128, 0, false));
        Check.same("drawn", "e528e9abf2dece54d47c7e75e5fe302149f817ea9fb4bee6f4199697d04d5b89"
                + "d54fbb978a15b5c443c9ec21036d2460b6f73ebad0dc2aba6e624abf07745bc1"
                + "07694bb7547bb0995f70de25d6b29e2d3011bb19d27676c07162c8b5ccde0668"
                + "961df86803482cb37ed6d5c0bb8d50cf1f50d476aa0458bdaba806f48be9dcb8", Check.drawn(well));
    }

    private static void counterGenerator() {
        BitWell well = new BitWell();
        Check.supply(well, "df5d73faa468649edda33b5cca79b0b05600419ccb7a879ddfec9db32ee494e5"
                + "531b51de16a30f769262474c73bec010");
        Check.same("open", 0, well.open(7, 256, false, 9));
        Check.same("draw", 0, well.draw(0, 64, 0, false));
        Check.same("draw", 0, well.draw(0, 64, 0, false));
        Check.same("drawn", "d1c07cd95af8a7f11012c84ce48bb8cb87189e99d40fccb1771c619bdf82ab22"
                + "80b1dc2f2581f39164f7ac0c510494b3a43c41b7db17514c87b107ae793e01c5", Check.drawn(well));
    }
}
