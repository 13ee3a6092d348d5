from ref import *
def table(Ds,maxn,maxlen=5):
    """least value of each class; class = membership in all parts of all schemas"""
    parts=[];seen=set()
    for di,D in enumerate(Ds):
        for sh in D.values():
            for p in allparts(sh):
                if (p,di) not in seen: seen.add((p,di)); parts.append((p,D))
    def mask(v): return tuple(ofpart(v,p,D) for p,D in parts)
    best={}
    nums={0,1,-1}; lets=set()
    for p,D in parts:
        if p[0]=='num':
            for x in (p[1],p[2],p[1]-1,p[2]+1):
                if -9999<=x<=9999: nums.add(x)
        if p[0]=='text' and p[1]: lets|={c for c,_ in p[1] if c!='.'}
    oth=[c for c in LOW if c not in lets][:1]
    L=sorted(lets|set(oth))
    new=[]
    def offer(v):
        m=mask(v)
        if m not in best or okey(v)<okey(best[m]): best[m]=v
    for x in nums: offer(('n',x))
    for n in range(0,9):
        if len(L)**n>5000: break
        for t in itertools.product(L,repeat=n): offer(('t',''.join(t)))
    lists=[(p,D) for p,D in parts if p[0]=='list']; maps=[(p,D) for p,D in parts if p[0]=='map']
    recs=[(p,D) for p,D in parts if p[0]=='rec']
    tags=sorted({p[1] for p,D in parts if p[0]=='tag'},key=sk)
    names=sorted({f[0] for p,D in recs for f in p[1]},key=sk)
    # rows: table[c][m]: mask->seq
    def rowtables(ps,inner):
        return {0:{0:{(True,)*len(ps):()}}}
    rowsL=rowtables(lists,1); rowsM=rowtables(maps,1)
    def alive(ps,v): return tuple(isof(v,p[1],D) for p,D in ps)
    def seqkey(s): return tuple(okey(x) for x in s)
    for n in range(1,maxn+1):
        # compute rows with total n-1
        level=[]
        for ps,rows,kind in ((lists,rowsL,'l'),(maps,rowsM,'m')):
            items=[(v,nodes(v),alive(ps,v)) for v in best.values() if nodes(v)<n]
            for c in range(1,9):
                t={}
                for v,k,al in items:
                    prev=rows.get(c-1,{}).get(n-1-k)
                    if prev:
                        for pm,ps_ in prev.items():
                            m=tuple(a and b for a,b in zip(pm,al)); s=ps_+(v,)
                            if m not in t or seqkey(s)<seqkey(t[m]): t[m]=s
                if t: rows.setdefault(c,{})[n-1]=t
            for c in range(0,9):
                t=rows.get(c,{}).get(n-1,{})
                for s in t.values():
                    level.append(('l',s) if kind=='l' else ('m',tuple(zip(['','a','b','c','d','e','f','g'],s))))
        for v in list(best.values()):
            if nodes(v)==n-1:
                for t in tags: level.append(('g',t,v))
        # records: DP over names with alive mask of recs
        if n-1==0: level.append(('r',()))
        vals=[v for v in best.values() if nodes(v)<n]
        st={((True,)*len(recs),0):()}   # (alive,nodes)->fields least (count, lex)
        def fk(s): return (len(s),tuple((sk(a),okey(x)) for a,x in s))
        # keep several counts: key includes count
        st={((True,)*len(recs),0,0):()}
        for nm in names:
            ns={}
            def put(k,s):
                if k not in ns or fk(s)<fk(ns[k]): ns[k]=s
            for (al,tot,cnt),s in st.items():
                # absent
                a2=tuple(a and (nm not in {f[0] for f in p[1]} or {f[0]:f for f in p[1]}[nm][1]) for a,(p,D) in zip(al,recs))
                put((a2,tot,cnt),s)
                for v in vals:
                    if tot+nodes(v)<=n-1:
                        a3=[]
                        for a,(p,D) in zip(al,recs):
                            f={f[0]:f for f in p[1]}.get(nm)
                            a3.append(a and f is not None and isof(v,f[2],D))
                        if any(a3): put((tuple(a3),tot+nodes(v),cnt+1),s+((nm,v),))
            st=ns
        for (al,tot,cnt),s in st.items():
            if tot==n-1 and any(al): level.append(('r',s))
        for v in level:
            if nodes(v)==n: offer(v)
        if len(best)>400: break
    return sorted(best.values(),key=okey)

def fix(D): return D
class Model:
    def __init__(s):
        s.tape=b''; s.out=b''; s.slots=[None]*8; s.vs=[]; s.docs=[]; s.flt=NONE; s.res=[]
    MAXN=7
    # -- helpers
    def take(s):
        t=s.tape.decode('latin1'); s.tape=b''; return t
    def slot(s,i):
        if not 0<=i<8: raise IOOBE
    def ver(s,i):
        if not 0<=i<len(s.vs): raise IOOBE
    def dfn(s,v,d):
        if not 0<=d<len(s.vs[v]['defs']): raise IOOBE
    def val(s,i):
        if s.slots[i] is None: raise ISE
        return s.slots[i]
    def D(s,v): return dict(s.vs[v]['defs'])
    def root(s,v): return s.vs[v]['defs'][0][1]
    def setout(s,t): s.out=t.encode('latin1'); return len(s.out)
    # -- calls
    def feed(s,b,n):
        if not 1<=n<=8: raise IAE
        if len(s.tape)+n>600: raise ISE
        s.tape+=(b&(2**64-1)).to_bytes(8,'little')[:n]; return len(s.tape)
    def fault(s): return s.flt
    def length(s): return len(s.out)
    def word(s,i):
        if i<0: return 0
        w=int.from_bytes(s.out[8*i:8*i+8],'little')
        return w-2**64 if w>=2**63 else w
    def text(s,start,fn):
        f,r=parse(start,s.take(),fn); s.flt=NONE if f is None else f
        return f,r
    def put(s,i):
        s.slot(i); f,v=s.text(('V',0),lambda p:p.wvalue())
        if f is not None: raise ISE
        s.slots[i]=v; return nodes(v)
    def clear(s,i):
        s.slot(i); r=s.slots[i] is not None; s.slots[i]=None; return int(r)
    def show(s,i):
        s.slot(i); return s.setout(show(s.val(i)))
    def compare(s,i,j):
        s.slot(i); s.slot(j); a,b=okey(s.val(i)),okey(s.val(j)); return (a>b)-(a<b)
    def begin(s):
        t=s.take(); f,d=parse_schema(t); s.flt=NONE if f is None else f
        if f is not None or len(s.vs)>=12: raise ISE
        s.vs.append(dict(defs=d,parent=NONE,ch=None)); return len(s.vs)-1
    def change(s,v,k,d,n):
        s.ver(v); s.dfn(v,d)
        if not 0<=k<=11 or (not 2<=n<=100 if k in(SPLIT,JOIN) else n!=0): raise IAE
        txt=s.take(); f,c=s.parse_change(k,txt); s.flt=NONE if f is None else f
        if f is not None or len(s.vs)>=12: raise ISE
        r=s.apply(v,k,d,n,txt,c)
        if r is None: raise ISE
        s.vs.append(r); return len(s.vs)-1
    def parse_change(s,k,txt):
        def fn(p):
            if k==ADD:
                r=[]
                while True:
                    fl=p.field(); df=p.default(); r.append((fl,df))
                    if p.pk()!=',': return r
                    p.eat(',')
            a=p.letters()
            if k in(DROP,REQUIRE): return (a,p.default())
            if k in(RENAME,MOVE,LIFT): p.eat(','); return (a,p.letters())
            if k in(SPLIT,JOIN): p.eat(','); b=p.letters(); p.eat(','); return (a,b,p.letters())
            if k==RETYPE: p.eat(':'); sh=p.shape(); return (a,sh,p.default())
            if k==WRAP: p.eat(','); return (a,p.tag())
            return (a,)
        return parse(('CH',k),txt,fn)
    def told(s,k,c):
        if k==ADD: return [f[0] for f,_ in c]
        if k in(RENAME,MOVE,LIFT,SPLIT,JOIN): return list(c)
        return [c[0]]
    def leastof(s,sh,D):
        D2=dict(D); D2['']=sh
        lim=16
        for v in table([D2],lim):
            if isof(v,sh,D2): return v
        return None
    def apply(s,pv,k,d,n,txt,c):
        defs=s.vs[pv]['defs']; name,sh=defs[d]; OD=s.D(pv)
        if len(sh)!=1 or sh[0][0]!='rec': return None
        old=list(sh[0][1]); F={f[0]:f for f in old}; fs=list(old)
        def need(*ns): return all(x in F for x in ns)
        def single(f,kind): return len(f[2])==1 and f[2][0][0]==kind
        def counter(f): return not f[1] and single(f,'num') and f[2][0][1]>=0
        extra={}
        if k==ADD: fs+= [f for f,_ in c]
        else:
            if k in (JOIN,) :
                if not need(c[0],c[1]): return None
            elif k==MOVE:
                if not need(*c): return None
            elif not need(c[0]): return None
            f=F[c[0]]; rest=[x for x in old if x[0]!=c[0]]
            if k==DROP: fs=rest
            elif k==RENAME: fs=rest+[(c[1],f[1],f[2])]
            elif k==SPLIT:
                if not counter(f): return None
                l,m=f[2][0][1:]
                fs=rest+[(c[1],False,(('num',l//n,m//n),)),(c[2],False,(('num',0,n-1),))]
            elif k==JOIN:
                g,h=F[c[0]],F[c[1]]
                if c[0]==c[1] or not counter(g) or not counter(h): return None
                l,m=g[2][0][1:]; kk,j=h[2][0][1:]
                if j>=n or m*n+j>9999: return None
                fs=[x for x in rest if x[0]!=c[1]]+[(c[2],False,(('num',l*n+kk,m*n+j),))]
            elif k==MOVE:
                if c[0]==c[1]: return None
                r=F[c[1]]
                if r[1] or not single(r,'rec') or any(x[0]==c[0] for x in r[2][0][1]): return None
                nr=(r[0],False,(('rec',tuple(r[2][0][1])+(f,)),))
                fs=[x for x in rest if x[0]!=c[1]]+[nr]
            elif k==LIFT:
                if f[1] or not single(f,'rec'): return None
                inner=[x for x in f[2][0][1] if x[0]==c[1]]
                if not inner or c[1] in F: return None
                fs=rest+[(f[0],False,(('rec',tuple(x for x in f[2][0][1] if x[0]!=c[1])),)),inner[0]]
            elif k==RETYPE: fs=rest+[(f[0],f[1],c[1])]
            elif k==WRAP: fs=rest+[(f[0],f[1],(('tag',c[1],f[2]),))]
            elif k==UNWRAP:
                if not single(f,'tag'): return None
                extra['tag']=f[2][0][1]
                fs=rest+[(f[0],f[1],f[2][0][2])]
            elif k==RELAX:
                if f[1]: return None
                fs=rest+[(f[0],True,f[2])]
            elif k==REQUIRE:
                if not f[1]: return None
                fs=rest+[(f[0],False,f[2])]
        nd=list(defs); nd[d]=(name,(('rec',tuple(fs)),))
        if len({f[0] for f in fs})!=len(fs): return None
        t=tschema(canon(nd)); ff,nd=parse_schema(t)
        if ff is not None: return None
        ND=dict(nd); NF={f[0]:f for f in nd[d][1][0][1]}
        ver=dict(defs=nd,parent=pv,ch=(k,d,n,txt),c=c,**extra)
        def names(e):
            if e[0]=='name': return {e[1]}
            if e[0]=='int': return set()
            return names(e[1])|names(e[2])
        def default(fname,df,shape,DD,fields,soft=False):
            least=s.leastof(shape,DD)
            if least is None: return None
            if df[0]=='val':
                if isof(df[1],shape,DD): return ('val',df[1])
                return ('val',least) if soft else None
            ns=names(df[1])
            if fname in ns or any(x not in fields for x in ns): return None
            return ('sum',df[1],least)
        if k==ADD:
            ver['df']={}
            for f,df in c:
                r=default(f[0],df,NF[f[0]][2],ND,NF,True)
                if r is None: return None
                ver['df'][f[0]]=r
            # ring
            left={f[0] for f,_ in c}
            deps={f[0]:(names(df[1]) if df[0]=='sum' else set()) for f,df in c}
            while left:
                ok=[x for x in left if not deps[x]&left]
                if not ok: return None
                left-={min(ok,key=sk)}
        elif k==DROP:
            ver['df']=default(c[0],c[1],F[c[0]][2],OD,F)
            if ver['df'] is None: return None
        elif k==REQUIRE:
            ver['df']=default(c[0],c[1],NF[c[0]][2],ND,NF)
            if ver['df'] is None: return None
        elif k==RETYPE:
            ver['df']=default(c[0],c[2],NF[c[0]][2],ND,NF)
            ver['oldleast']=s.leastof(F[c[0]][2],OD)
            if ver['df'] is None or ver['oldleast'] is None: return None
        elif k==RELAX:
            ver['oldleast']=s.leastof(F[c[0]][2],OD)
            if ver['oldleast'] is None: return None
        return ver
    def versions(s): return len(s.vs)
    def parent(s,v): s.ver(v); return s.vs[v]['parent']
    def schema(s,v): s.ver(v); return s.setout(tschema(s.vs[v]['defs']))
    def signature(s,v):
        s.ver(v); x=7
        for b in tschema(s.vs[v]['defs']).encode(): x=(x*31+b)%1000003
        return x
    def isPlain(s,v):
        s.ver(v); D=s.D(v); T=table([D],s.MAXN)
        def places(sh):
            yield sh
            for p in sh:
                for q in subshapes(p): yield from places(q)
        for _,sh in s.vs[v]['defs']:
            for pl in places(sh):
                L=leads(pl,D)
                for i in range(len(L)):
                    for j in range(i):
                        if any(ofpart(x,L[i],D) and ofpart(x,L[j],D) for x in T): return 0
        return 1
    def isOf(s,v,d,i):
        s.ver(v); s.dfn(v,d); s.slot(i); return int(isof(s.val(i),s.vs[v]['defs'][d][1],s.D(v)))
    def both(s,v,d,w,e): s.ver(v); s.dfn(v,d); s.ver(w); s.dfn(w,e)
    def first(s,cands):
        for x in cands: s.setout(show(x)); return nodes(x)
        s.setout(''); return NONE
    def sh(s,v,d): return s.vs[v]['defs'][d][1]
    def witness(s,v,d,w,e):
        s.both(v,d,w,e); D,E=s.D(v),s.D(w)
        return s.first(x for x in table([D,E],s.MAXN) if isof(x,s.sh(v,d),D) and not isof(x,s.sh(w,e),E))
    def common(s,v,d,w,e):
        s.both(v,d,w,e); D,E=s.D(v),s.D(w)
        return s.first(x for x in table([D,E],s.MAXN) if isof(x,s.sh(v,d),D) and isof(x,s.sh(w,e),E))
    def least(s,v,d):
        s.ver(v); s.dfn(v,d); D=s.D(v)
        return s.first(x for x in table([D],s.MAXN+4) if isof(x,s.sh(v,d),D))
    def infer(s,m,g):
        if not 0<=m<=255 or not 1<=g<=4: raise IAE
        if len(s.vs)>=12: raise ISE
        vals=[s.slots[i] for i in range(8) if m>>i&1 and s.slots[i] is not None]
        try: sh=s.inf(vals,g)
        except OverflowError: raise ISE
        f,d=parse_schema('V='+sh+';')
        if f is not None: raise ISE
        s.vs.append(dict(defs=d,parent=NONE,ch=None)); return len(s.vs)-1
    def inf(s,vals,g):
        if not vals: return 'none'
        def of(k): return [v for v in vals if v[0]==k]
        def build(textalone):
            r=[]
            ns=[v[1] for v in of('n')]
            if ns: r.append('num(%d..%d)'%(min(ns),max(ns)))
            ts=sorted({v[1] for v in of('t')},key=sk)
            if ts:
                if len(ts)>g or '' in ts or textalone: r.append('text')
                else: r+=['text(%s)'%t for t in ts]
            ls=[v[1] for v in of('l')]
            if ls: r.append('[%s;%d..%d]'%(s.inf([x for l in ls for x in l],g),min(map(len,ls)),max(map(len,ls))))
            rs=[dict(v[1]) for v in of('r')]; mv=[]; anymap=False
            nm=sorted({n for x in rs for n in x},key=sk)
            if rs:
                if len(nm)<=6:
                    r.append('{'+','.join(n+('' if all(n in x for x in rs) else '?')+':'+s.inf([x[n] for x in rs if n in x],g) for n in nm)+'}')
                else: anymap=True; mv+=[y for x in rs for y in x.values()]
            for t in sorted({v[1] for v in of('g')},key=sk): r.append(t+'('+s.inf([v[2] for v in of('g') if v[1]==t],g)+')')
            if of('m') or anymap:
                mv+=[y for v in of('m') for _,y in v[1]]
                r.append('<'+s.inf(mv,g)+'>')
            return r
        r=build(False)
        if len(r)>6: r=build(True)
        if len(r)>6: raise OverflowError
        return '|'.join(r)
    # -- ways
    def anc(s,v):
        r=[]
        while v!=NONE: r.append(v); v=s.vs[v]['parent']
        return r
    def lca(s,a,b):
        B=set(s.anc(b))
        for x in s.anc(a):
            if x in B: return x
        return None
    def down(s,top,v):
        r=[]
        while v!=top: r.append(v); v=s.vs[v]['parent']
        return r[::-1]
    def way(s,a,b):
        t=s.lca(a,b)
        if t is None: return None
        return [(x,False) for x in reversed(s.down(t,a))]+[(x,True) for x in s.down(t,b)]
    def conv(s,v,a,b):
        w=s.way(a,b)
        if w is None or not isof(v,s.root(a),s.D(a)): return None
        for x,fw in w:
            v=s.over(v,x,fw)
            if nodes(v)>60 or deep(v)>12: return None
        return v
    def over(s,v,x,fw):
        V=s.vs[x]; p=V['parent']; src=p if fw else x
        D=s.D(src); dn,dsh=s.vs[src]['defs'][V['ch'][1]]
        target=dsh[0]
        def find(v,sh):
            for q in sh:
                if q[0]=='@':
                    r=find(v,D[q[1]])
                    if r: return r
                elif ofpart(v,q,D): return (q,)
            return None
        # identity of the part: by object id
        def findid(v,sh):
            for q in sh:
                if q[0]=='@':
                    r=findid(v,D[q[1]])
                    if r is not None: return r
                elif ofpart(v,q,D): return q
            return None
        def go(v,sh):
            q=findid(v,sh); k=v[0]
            if k in 'nt': return v
            if k=='l': return ('l',tuple(go(y,q[1]) for y in v[1]))
            if k=='m': return ('m',tuple((a,go(y,q[1])) for a,y in v[1]))
            if k=='g': return ('g',v[1],go(v[2],q[2]))
            fs={f[0]:f[2] for f in q[1]}
            r={a:go(y,fs[a]) for a,y in v[1]}
            if q is target: r=s.alter(r,x,fw)
            return ('r',tuple(sorted(r.items(),key=lambda e:sk(e[0]))))
        return go(v,s.root(src))
    def dflt(s,df,r,sh,D):
        if df[0]=='val': return df[1]
        def ev(e):
            if e[0]=='int': return e[1]
            if e[0]=='name':
                y=r.get(e[1]); return y[1] if y is not None and y[0]=='n' else 0
            a,b=ev(e[1]),ev(e[2]); return a+b if e[0]=='+' else a-b if e[0]=='-' else a*b
        y=('n',max(-9999,min(9999,ev(df[1]))))
        return y if isof(y,sh,D) else df[2]
    def alter(s,r,x,fw):
        V=s.vs[x]; k,d,n,_=V['ch']; c=V['c']; p=V['parent']
        OD,ND=s.D(p),s.D(x)
        OF={f[0]:f for f in s.sh(p,d)[0][1]}; NF={f[0]:f for f in s.sh(x,d)[0][1]}
        r=dict(r)
        def clamp(y,F,nm):
            q=F[nm][2][0]; return ('n',max(q[1],min(q[2],y)))
        def split(f,g,h,F):
            y=r.pop(f)[1]; r[g]=clamp(y//n,F,g); r[h]=clamp(y%n,F,h)
        def join(g,h,f,F):
            y=r[g][1]*n+r[h][1]; r.pop(g); r.pop(h); r[f]=clamp(y,F,f)
        def ren(a,b):
            if a in r: r[b]=r.pop(a)
        def move(f,q):
            if f in r:
                y=r.pop(f); z=dict(r[q][1]); z[f]=y; r[q]=('r',tuple(sorted(z.items(),key=lambda e:sk(e[0]))))
        def lift(q,f):
            z=dict(r[q][1])
            if f in z:
                y=z.pop(f); r[q]=('r',tuple(sorted(z.items(),key=lambda e:sk(e[0])))); r[f]=y
        if k==ADD:
            if fw:
                left={f[0] for f,_ in c}
                def nms(e): return {e[1]} if e[0]=='name' else set() if e[0]=='int' else nms(e[1])|nms(e[2])
                while left:
                    ok=min((y for y in left if V['df'][y][0]=='val' or not nms(V['df'][y][1])&left),key=sk)
                    left.discard(ok); r[ok]=s.dflt(V['df'][ok],r,NF[ok][2],ND)
            else:
                for f,_ in c: r.pop(f[0],None)
        elif k==DROP:
            if fw: r.pop(c[0],None)
            else: r[c[0]]=s.dflt(V['df'],r,OF[c[0]][2],OD)
        elif k==RENAME: ren(*(c if fw else c[::-1]))
        elif k==SPLIT: split(*c,NF) if fw else join(c[1],c[2],c[0],OF)
        elif k==JOIN: join(*c,NF) if fw else split(c[2],c[0],c[1],OF)
        elif k==MOVE: move(*c) if fw else lift(c[1],c[0])
        elif k==LIFT: lift(*c) if fw else move(c[1],c[0])
        elif k==RETYPE:
            f=c[0]
            if f in r:
                if fw:
                    if not isof(r[f],NF[f][2],ND): r[f]=s.dflt(V['df'],r,NF[f][2],ND)
                elif not isof(r[f],OF[f][2],OD): r[f]=V['oldleast']
        elif k in(WRAP,UNWRAP):
            f=c[0]; tag=c[1] if k==WRAP else V['tag']
            if f in r: r[f]=('g',tag,r[f]) if (k==WRAP)==fw else r[f][2]
        elif k==RELAX:
            if not fw and c[0] not in r: r[c[0]]=V['oldleast']
        elif k==REQUIRE:
            if fw and c[0] not in r: r[c[0]]=s.dflt(V['df'],r,NF[c[0]][2],ND)
        return r
    def convert(s,a,b,i,j):
        s.ver(a); s.ver(b); s.slot(i); s.slot(j); v=s.conv(s.val(i),a,b)
        if v is None: raise ISE
        s.slots[j]=v; return nodes(v)
    def losses(s,a,b):
        s.ver(a); s.ver(b); w=s.way(a,b)
        if w is None: return NONE
        return sum(s.loses(x,fw) for x,fw in w)
    def loses(s,x,fw):
        V=s.vs[x]; k,d,n,_=V['ch']; c=V['c']; p=V['parent']
        OF={f[0]:f for f in s.sh(p,d)[0][1]}; NF={f[0]:f for f in s.sh(x,d)[0][1]}
        if k==RETYPE:
            D=dict(s.D(x) if fw else s.D(p))
            A,B=OF[c[0]][2],NF[c[0]][2]
            if not fw: A,B=B,A
            D['']=A; D['!']=B
            return any(isof(y,A,D) and not isof(y,B,D) for y in table([D],s.MAXN))
        if fw: return k in(DROP,REQUIRE)
        if k in(ADD,RELAX): return True
        if k==SPLIT:
            f=OF[c[0]][2][0]; g=NF[c[1]][2][0]; h=NF[c[2]][2][0]
            return any(not f[1]<=a*n+b<=f[2] for a in range(g[1],g[2]+1) for b in range(h[1],h[2]+1))
        if k==JOIN:
            g=OF[c[0]][2][0]; h=OF[c[1]][2][0]; f=NF[c[2]][2][0]
            return any(not(g[1]<=y//n<=g[2] and h[1]<=y%n<=h[2]) for y in range(f[1],f[2]+1))
        return False
    # -- forms
    def bits(s,v,sh,D):
        w=(len(sh)-1).bit_length()
        for i,p in enumerate(sh):
            if ofpart(v,p,D): break
        else: raise ISE
        b=format(i,'0%db'%w) if w else ''
        def num(x,m):
            w=m.bit_length(); return format(x,'0%db'%w) if w else ''
        def txt(t): return format(len(t),'04b')+''.join(format(ord(c)-97,'05b') for c in t)
        k=p[0]
        if k=='num': b+=num(v[1]-p[1],p[2]-p[1])
        elif k=='text': b+=txt(v[1])
        elif k=='list': b+=num(len(v[1])-p[2],p[3]-p[2])+''.join(s.bits(x,p[1],D) for x in v[1])
        elif k=='rec':
            d=dict(v[1])
            for f in p[1]:
                if f[1]: b+='1' if f[0] in d else '0'
                if f[0] in d: b+=s.bits(d[f[0]],f[2],D)
        elif k=='tag': b+=s.bits(v[2],p[2],D)
        elif k=='map': b+=format(len(v[1]),'04b')+''.join(txt(a)+s.bits(x,p[1],D) for a,x in v[1])
        else: b+=s.bits(v,D[p[1]],D)
        return b
    def encode(s,v,i):
        s.ver(v); s.slot(i); x=s.val(i)
        b=s.bits(x,s.root(v),s.D(v)); n=len(b); b+='0'*(-n%8)
        s.out=bytes(int(b[j:j+8],2) for j in range(0,len(b),8)); return n
    def decode(s,v,n,i):
        s.ver(v); s.slot(i)
        if not 0<=n<=4800: raise IAE
        t=s.tape; s.tape=b''
        if n>8*len(t): raise ISE
        b=''.join(format(x,'08b') for x in t)[:n]
        D=s.D(v); pos=[0]; made=[0]
        class Bad(Exception): pass
        def get(w):
            if pos[0]+w>n: raise Bad
            r=int(b[pos[0]:pos[0]+w] or '0',2); pos[0]+=w; return r
        def txt():
            m=get(4)
            if m>8: raise Bad
            t=''
            for _ in range(m):
                c=get(5)
                if c>25: raise Bad
                t+=LOW[c]
            return t
        def rd(sh,dep):
            if dep>13: raise Bad
            i=get((len(sh)-1).bit_length())
            if i>=len(sh): raise Bad
            p=sh[i]; k=p[0]
            if k!='@':
                made[0]+=1
                if made[0]>70: raise Bad
            if k=='num':
                x=get((p[2]-p[1]).bit_length())+p[1]
                if x>p[2]: raise Bad
                return ('n',x)
            if k=='text': return ('t',txt())
            if k=='list':
                m=get((p[3]-p[2]).bit_length())+p[2]
                if m>p[3]: raise Bad
                return ('l',tuple(rd(p[1],dep+1) for _ in range(m)))
            if k=='rec':
                r=[]
                for f in p[1]:
                    if not f[1] or get(1): r.append((f[0],rd(f[2],dep+1)))
                return ('r',tuple(r))
            if k=='tag': return ('g',p[1],rd(p[2],dep+1))
            if k=='map':
                m=get(4)
                if m>8: raise Bad
                r=[]
                for _ in range(m):
                    a=txt(); r.append((a,rd(p[1],dep+1)))
                return ('m',tuple(r))
            if k=='none': raise Bad
            return rd(D[p[1]],dep)
        try:
            x=rd(s.root(v),0)
            if pos[0]!=n: raise Bad
        except Bad: raise ISE
        if x[0]=='m' or True:
            def okmaps(x):
                if x[0] in 'nt': return True
                if x[0]=='m':
                    ks=[sk(a) for a,_ in x[1]]
                    if any(a>=b for a,b in zip(ks,ks[1:])): return False
                return all(okmaps(y) for y in (x[1] if x[0]=='l' else [y for _,y in x[1]] if x[0] in 'rm' else [x[2]]))
            if not okmaps(x) or nodes(x)>60 or deep(x)>12 or not isof(x,s.root(v),D) or s.bits(x,s.root(v),D)!=b: raise ISE
        s.slots[i]=x; return nodes(x)
    # -- queries
    def path(s):
        def fn(p):
            r=[]
            while p.i<len(p.t):
                c=p.pk()
                if c=='.': p.i+=1; r.append(('.',p.letters()))
                elif c=='[': p.eat('[]'); r.append(('[]',))
                elif c=='<': p.eat('<>'); r.append(('<>',))
                else: p.i+=1; r.append(('!',p.tag()))
            if len(r)>8: p.odd=True
            return r
        f,r=s.text(('PA',),fn)
        if f is not None: raise ISE
        return r
    def step(s,shapes,st,D):
        r=[]
        for p in [p for sh in shapes for p in leads(sh,D)]:
            if st[0]=='.' and p[0]=='rec': r+=[f[2] for f in p[1] if f[0]==st[1]]
            if st[0]=='[]' and p[0]=='list': r.append(p[1])
            if st[0]=='<>' and p[0]=='map': r.append(p[1])
            if st[0]=='!' and p[0]=='tag' and p[1]==st[1]: r.append(p[2])
        return r
    def gone(s,v,path):
        cur=[s.root(v)]; D=s.D(v)
        for st in path:
            cur=s.step(cur,st,D)
            if not cur: raise ISE
        return cur
    def query(s,v,i):
        s.ver(v); s.slot(i); p=s.path(); s.gone(v,p); x=s.val(i)
        if not isof(x,s.root(v),s.D(v)): raise ISE
        cur=[x]
        for st in p:
            n=[]
            for y in cur:
                if st[0]=='.' and y[0]=='r': n+=[z for a,z in y[1] if a==st[1]]
                if st[0]=='[]' and y[0]=='l': n+=y[1]
                if st[0]=='<>' and y[0]=='m': n+=[z for _,z in y[1]]
                if st[0]=='!' and y[0]=='g' and y[1]==st[1]: n.append(y[2])
            cur=n
        s.res=cur; return len(cur)
    def result(s,i):
        if not 0<=i<len(s.res): raise IOOBE
        return s.setout(show(s.res[i]))
    def shapeOf(s,v):
        s.ver(v); p=s.path(); cur=s.gone(v,p); t=[]
        for sh in cur:
            for q in sh:
                if tpart(q) not in t: t.append(tpart(q))
        return s.setout('|'.join(t))
    def rewrite(s,a,b):
        s.ver(a); s.ver(b); p=s.path(); s.gone(a,p); w=s.way(a,b)
        if w is None: raise ISE
        for x,fw in w:
            p=s.rew(p,x,fw)
            if p is None or len(p)>8: raise ISE
        return s.setout(''.join(''.join(st) for st in p))
    def rew(s,path,x,fw):
        V=s.vs[x]; k,d,n,_=V['ch']; c=V['c']; p=V['parent']; src=p if fw else x
        D=s.D(src); rec=s.sh(src,d)[0]; cur=[s.root(src)]; out=[]; i=0
        # list of (old row, new row or None) rules on the changed record
        T=s.told(k,c); rules=[]; tag=c[1] if k==WRAP else V.get('tag')
        F=lambda a:('.',a)
        mv=lambda f,r:([F(f)],[F(r),F(f)]); lf=lambda r,f:([F(r),F(f)],[F(f)])
        if k==RENAME:
            a,b=c if fw else c[::-1]
            if a!=b: rules.append(([F(a)],[F(b)]))
        elif k==MOVE: rules.append(mv(*c) if fw else lf(c[1],c[0]))
        elif k==LIFT: rules.append(lf(*c) if fw else mv(c[1],c[0]))
        elif k in(WRAP,UNWRAP):
            a,b=[F(c[0])],[F(c[0]),('!',tag)]
            rules.append((a,b) if (k==WRAP)==fw else (b,a))
        elif k==RETYPE: rules.append(([F(c[0])],'last'))
        elif fw:
            if k in(DROP,SPLIT,REQUIRE): rules.append(([F(c[0])],None))
            if k==JOIN: rules+=[([F(c[0])],None),([F(c[1])],None)]
        else:
            if k==ADD: rules+=[([F(y)],None) for y in T]
            if k==SPLIT: rules+=[([F(c[1])],None),([F(c[2])],None)]
            if k==JOIN: rules.append(([F(c[2])],None))
            if k==RELAX: rules.append(([F(c[0])],None))
        while i<len(path):
            parts=[q for sh in cur for q in leads(sh,D)]
            used=1; new=[path[i]]
            if any(q is rec for q in parts):
                for old,nw in rules:
                    if path[i:i+len(old)]==old:
                        if nw is None: return None
                        if nw=='last':
                            if i!=len(path)-1: return None
                            continue
                        used=len(old); new=nw
                        for q in parts:
                            if q[0]=='rec' and q is not rec and any(f[0] in (old[0][1],nw[0][1]) for f in q[1]): return None
                        break
            out+=new
            for st in path[i:i+used]: cur=s.step(cur,st,D)
            i+=used
        return out
    # -- store
    def write(s,v,i):
        s.ver(v); s.slot(i); x=s.val(i)
        if not isof(x,s.root(v),s.D(v)) or len(s.docs)>=12: raise ISE
        s.docs.append([x,v]); return len(s.docs)-1
    def read(s,d,v,i):
        if not 0<=d<len(s.docs): raise IOOBE
        s.ver(v); s.slot(i); x=s.conv(s.docs[d][0],s.docs[d][1],v)
        if x is None: raise ISE
        s.slots[i]=x; return nodes(x)
    def move(s,v,m):
        s.ver(v)
        if not 1<=m<=12: raise IAE
        n=0
        for d in s.docs:
            if n<m and d[1]!=v:
                x=s.conv(d[0],d[1],v)
                if x is not None: d[0]=x; d[1]=v; n+=1
        return n
    def versionOf(s,d):
        if not 0<=d<len(s.docs): raise IOOBE
        return s.docs[d][1]
    # -- merging
    def conf(s,a,b):
        t=s.lca(a,b)
        if t is None: return None
        A=s.down(t,a); B=s.down(t,b); todo=[]; n=0
        for y in B:
            if any(s.vs[x]['ch']==s.vs[y]['ch'] for x in A): continue
            todo.append(y)
            ty=set(s.told(s.vs[y]['ch'][0],s.vs[y]['c']))
            n+=any(s.vs[x]['ch'][1]==s.vs[y]['ch'][1] and ty&set(s.told(s.vs[x]['ch'][0],s.vs[x]['c'])) for x in A)
        return n,todo
    def conflicts(s,a,b):
        s.ver(a); s.ver(b); r=s.conf(a,b); return NONE if r is None else r[0]
    def merge(s,a,b):
        s.ver(a); s.ver(b); r=s.conf(a,b)
        if r is None or r[0]: raise ISE
        keep=len(s.vs); last=a
        for y in r[1]:
            k,d,n,txt=s.vs[y]['ch']
            v=s.apply(last,k,d,n,txt,s.vs[y]['c']) if len(s.vs)<12 else None
            if v is None: s.vs=s.vs[:keep]; raise ISE
            s.vs.append(v); last=len(s.vs)-1
        return last
    # -- small
    def smalls(s,v,d,n):
        defs=s.vs[v]['defs']; D=dict(defs)
        nm=sorted({f[0] for _,sh in defs for p in allparts(sh) if p[0]=='rec' for f in p[1]},key=sk)
        tg=sorted({p[1] for _,sh in defs for p in allparts(sh) if p[0]=='tag'},key=sk)
        sm={1:[('n',0),('n',1),('n',-1),('t',''),('t','a'),('l',()),('r',()),('m',())]}
        for m in range(2,n+1):
            r=[]
            def rows(c,t):
                if c==0:
                    if t==0: yield ()
                    return
                for k in range(1,t-c+2):
                    for x in sm[k]:
                        for y in rows(c-1,t-k): yield (x,)+y
            for c in range(1,m):
                for row in rows(c,m-1):
                    if c<=3: r.append(('l',row))
                    for ns in itertools.combinations(nm,c): r.append(('r',tuple(zip(ns,row))))
                    if c<=2:
                        for ns in itertools.combinations('ab',c): r.append(('m',tuple(zip(ns,row))))
            for x in sm[m-1]:
                for t in tg: r.append(('g',t,x))
            sm[m]=r
        return sorted((x for x in sm[n] if isof(x,s.sh(v,d),D)),key=okey)
    def small(s,v,d,n):
        s.ver(v); s.dfn(v,d)
        if not 1<=n<=3: raise IAE
        return len(s.smalls(v,d,n))
    def putSmall(s,v,d,n,pl,i):
        s.ver(v); s.dfn(v,d); s.slot(i)
        if pl<0: raise IOOBE
        if not 1<=n<=3: raise IAE
        L=s.smalls(v,d,n)
        if pl>=len(L): raise IOOBE
        s.slots[i]=L[pl]; return len(show(L[pl]))
    def refuted(s,v,d,w,e,n):
        s.both(v,d,w,e)
        if not 1<=n<=3: raise IAE
        E=s.D(w)
        return sum(not isof(x,s.sh(w,e),E) for m in range(1,n+1) for x in s.smalls(v,d,m))
    def shrink(s,v,d,w,e,i):
        s.both(v,d,w,e); s.slot(i); x=s.val(i); D,E=s.D(v),s.D(w)
        ok=lambda y:isof(y,s.sh(v,d),D) and not isof(y,s.sh(w,e),E)
        if not ok(x): raise ISE
        def inner(x):
            for y in (x[1] if x[0]=='l' else [z for _,z in x[1]] if x[0] in 'rm' else [x[2]] if x[0]=='g' else []):
                yield y; yield from inner(y)
        def changed(x):
            k=x[0]
            if k=='n' and x[1]:
                z=x[1]; yield ('n',0); yield ('n',int(z/2)); yield ('n',z-1 if z>0 else z+1)
            if k=='t':
                for j in range(len(x[1])): yield ('t',x[1][:j]+x[1][j+1:])
            if k=='g':
                for y in changed(x[2]): yield ('g',x[1],y)
            if k=='l':
                for j in range(len(x[1])):
                    yield ('l',x[1][:j]+x[1][j+1:])
                    for y in changed(x[1][j]): yield ('l',x[1][:j]+(y,)+x[1][j+1:])
            if k in 'rm':
                for j,(a,z) in enumerate(x[1]):
                    yield (k,x[1][:j]+x[1][j+1:])
                    for y in changed(z): yield (k,x[1][:j]+((a,y),)+x[1][j+1:])
        n=0
        while n<20:
            c=[y for y in itertools.chain(inner(x),changed(x)) if ok(y)]
            if not c: break
            x=min(c,key=okey); n+=1
        s.slots[i]=x; return n
def canon(defs):
    def cs(sh): return tuple(cp(p) for p in sh)
    def cp(p):
        k=p[0]
        if k=='list': return ('list',cs(p[1]),p[2],p[3])
        if k=='map': return ('map',cs(p[1]))
        if k=='tag': return ('tag',p[1],cs(p[2]))
        if k=='rec': return ('rec',tuple(sorted(((n,o,cs(s)) for n,o,s in p[1]),key=lambda f:sk(f[0]))))
        return p
    return tuple((n,cs(s)) for n,s in defs)
