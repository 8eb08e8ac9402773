import java.math.BigInteger;
import java.nio.charset.StandardCharsets;
import java.security.GeneralSecurityException;
import java.security.KeyFactory;
import java.security.Signature;
import java.security.spec.RSAPrivateKeySpec;
import java.util.ArrayList;
import java.util.Arrays;
import java.util.Base64;
import java.util.List;
import java.util.Map;
import java.util.Random;

/** A key of 512 bits, always the same for the same number, that seals messages. */
final class Signer {
    private static final BigInteger E = BigInteger.valueOf(65537);

    final BigInteger modulus;
    private final BigInteger secret;

    Signer(long number) {
        Random random = new Random(number);
        BigInteger n = BigInteger.ONE;
        BigInteger d = BigInteger.ONE;
        for (boolean found = false; !found;) {
            BigInteger p = BigInteger.probablePrime(256, random);
            BigInteger q = BigInteger.probablePrime(256, random);
            BigInteger phi = p.subtract(BigInteger.ONE).multiply(q.subtract(BigInteger.ONE));
            n = p.multiply(q);
            found = n.bitLength() == 512 && phi.gcd(E).equals(BigInteger.ONE) && !p.equals(q);
            d = found ? E.modInverse(phi) : d;
        }
        modulus = n;
        secret = d;
    }

    static String packed(BigInteger number) {
        byte[] bytes = new byte[64];
        byte[] raw = number.toByteArray();
        int count = Math.min(64, raw.length);
        System.arraycopy(raw, raw.length - count, bytes, 64 - count, count);
        return Base64.getEncoder().encodeToString(bytes);
    }

    String key() {
        return packed(modulus);
    }

    /** The value of b whose 65537th power is the number. */
    String sign(BigInteger number) {
        return packed(number.modPow(secret, modulus));
    }

    /** The value of b for the text, made by the Java library alone. */
    String signed(String text) {
        try {
            Signature signature = Signature.getInstance("SHA256withRSA");
            signature.initSign(KeyFactory.getInstance("RSA").generatePrivate(new RSAPrivateKeySpec(modulus, secret)));
            signature.update(text.getBytes(StandardCharsets.ISO_8859_1));
            return Base64.getEncoder().encodeToString(signature.sign());
        } catch (GeneralSecurityException e) {
            throw new IllegalStateException(e);
        }
    }

    static String bodySum(String body, boolean relaxed, int length) {
        String plain = Model.plain(body, relaxed);
        String counted = length < 0 || length > plain.length() ? plain : plain.substring(0, length);
        return Base64.getEncoder().encodeToString(Model.sum(counted));
    }

    /** The FIELD with the value of b, which it has as "b=" and "B!" behind, filled in. */
    String seal(List<String> before, String field, List<String> after) {
        List<String> fields = new ArrayList<>(before);
        fields.add(field);
        fields.addAll(after);
        Map<String, String> tags = Model.tags(field.substring(field.indexOf(':') + 1));
        boolean relaxed = tags.getOrDefault("c", "simple").startsWith("relaxed");
        byte[] sum = Model.sum(Model.signedText(fields, field, tags, relaxed));
        return field.replace("B!", sign(new BigInteger(1, Model.padded(sum))));
    }

    /** A message of the FIELDS, the one with B! in it sealed, and the body. */
    String message(String body, String... fields) {
        List<String> all = new ArrayList<>(Arrays.asList(fields));
        for (int i = 0; i < all.size(); i++) {
            if (all.get(i).contains("B!")) {
                all.set(i, seal(all.subList(0, i), all.get(i), all.subList(i + 1, all.size())));
            }
        }
        return String.join("\n", all) + "\n\n" + body;
    }
}
